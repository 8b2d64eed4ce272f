import java.util.HashSet;
import java.util.List;
import java.util.Random;
import java.util.Set;

/** "Terms", I and II: drawings, lines, and how they are joined. */
final class TermsCases {
    private TermsCases() {
    }

    static void all() {
        drawings();
        lines();
        joined();
    }

    private static void drawings() {
        Doc.says(0, "A DRAWING is WIDE by HIGH dots (1 .. 8 each).", TermsCases::sizes);
        Doc.says(0, "Its POINTS are all (i, j) with i of 0 .. 2 WIDE, j of 0 .. 2 HIGH", TermsCases::points);
        Doc.says(0, "(down),", TermsCases::down);
        Doc.says(0, "i + j odd;", TermsCases::pointsAreOdd);
        Doc.says(0, "those with i 0 or 2 WIDE, or j 0 or 2 HIGH, are at the EDGE, the others INNER:", TermsCases::edgeAndInner);
        Doc.says(0, "each of these has a MIRROR: 0 none, 1 standing, 2 lying.", TermsCases::mirrors);
        Doc.says(0, "(Dots lie at i, j both odd.)", TermsCases::dots);
        Doc.says(0, "SQUARES (a, b), a of 0 .. 2 WIDE - 1, b of 0 .. 2 HIGH - 1:", TermsCases::squares);
        Doc.says(0, "each has the corners (a, b), (a + 1, b), (a, b + 1), (a + 1, b + 1), of which two, across from one"
            + " another, are POINTS;", TermsCases::corners);
        Doc.says(0, "its number is 2 WIDE b + a.", TermsCases::numbers);
        Doc.says(0, "The SQUARES round a dot (x, y) (from 0) are the four with a / 2 x, b / 2 y.", TermsCases::round);
        Doc.says(0, "The constants: `NONE = -1`: None.", () -> Check.due("NONE", ThresholdLines.NONE, -1));
    }

    private static void sizes() {
        for (int wide = 0; wide <= 9; wide++) {
            for (int high = 0; high <= 9; high++) {
                boolean is = wide >= 1 && wide <= 8 && high >= 1 && high <= 8;
                String size = wide + " " + high;
                ThresholdLines x = new ThresholdLines(3, 3);
                Check.tape(x, "plain " + size);
                Check.due("plain " + size, x.draw(), is ? wide * high : -1);
                Check.tape(x, "abcd");
                Check.due("back of " + size, x.back(wide, high, 1, 0) != -1, is);
                ThresholdLines y = new ThresholdLines(wide, high);
                Check.due("wide of a new " + size, y.about(0), Math.max(1, Math.min(8, wide)));
                Check.due("high of a new " + size, y.about(1), Math.max(1, Math.min(8, high)));
            }
        }
    }

    /** Whether a walk back may begin there: then the tape is read, so it is empty. */
    private static boolean isPoint(int wide, int high, int i, int j) {
        ThresholdLines x = new ThresholdLines(1, 1);
        Check.tape(x, "x");
        x.back(wide, high, i, j);
        return x.about(7) == 0;
    }

    private static void points() {
        for (int size = 0; size < 64; size++) {
            int wide = 1 + size % 8;
            int high = 1 + size / 8;
            for (int i = -1; i <= 2 * wide + 1; i++) {
                for (int j = (i & 1) == 0 ? -1 : 0; j <= 2 * high + 1; j += 2) {
                    boolean is = i >= 0 && i <= 2 * wide && j >= 0 && j <= 2 * high;
                    Check.due("point " + i + " " + j + " of " + wide + " " + high, isPoint(wide, high, i, j), is);
                }
            }
        }
        for (int far : Made.FAR) {
            Check.due("point " + far + " 0", isPoint(8, 8, far, 0) || isPoint(8, 8, far, 1), false);
            Check.due("point 0 " + far, isPoint(8, 8, 0, far) || isPoint(8, 8, 1, far), false);
        }
    }

    private static void down() {
        // From the upper edge the step down stays inside, from the lower edge the step up.
        Check.due("down from j 0", faultOfStep("a", 1, 0), 4);
        Check.due("up from j 0", faultOfStep("d", 1, 0), 2);
        Check.due("down from j 2", faultOfStep("a", 1, 2), 2);
        Check.due("up from j 2", faultOfStep("d", 1, 2), 4);
        ThresholdLines x = new ThresholdLines(1, 2);
        x.set(1, 2, 2);
        Check.due("the lower dot's line is the second", x.holds(1, 0, 1), 4);
        Check.due("of rows further down", x.line(1, 1), 4);
    }

    private static int faultOfStep(String step, int i, int j) {
        ThresholdLines x = new ThresholdLines(1, 1);
        Check.tape(x, step);
        x.back(1, 1, i, j);
        return x.fault(0);
    }

    private static void pointsAreOdd() {
        for (int i = 0; i <= 6; i++) {
            for (int j = i % 2; j <= 4; j += 2) {
                Check.due("no point " + i + " " + j, isPoint(3, 2, i, j), false);
                ThresholdLines x = new ThresholdLines(3, 2);
                Check.due("no mirror " + i + " " + j, x.mirror(i, j), -1);
                Check.due("none set " + i + " " + j, x.set(i, j, 1), false);
                Check.due("none pinned " + i + " " + j, x.pin(i, j, true), false);
            }
        }
    }

    private static void edgeAndInner() {
        for (int size = 0; size < 64; size++) {
            int wide = 1 + size % 8;
            int high = 1 + size / 8;
            ThresholdLines x = new ThresholdLines(wide, high);
            int inner = 0;
            for (int i = 0; i <= 2 * wide; i++) {
                for (int j = 1 - i % 2; j <= 2 * high; j += 2) {
                    boolean edge = i == 0 || i == 2 * wide || j == 0 || j == 2 * high;
                    String point = i + " " + j + " of " + wide + " " + high;
                    Check.due("mirror " + point, x.mirror(i, j), edge ? -1 : 0);
                    Check.due("set " + point, x.set(i, j, 2), !edge);
                    Check.due("pin " + point, x.pin(i, j, true), !edge);
                    inner += edge ? 0 : 1;
                }
            }
            Check.due("inner points of " + wide + " " + high, x.about(2), inner);
            Check.due("all lie", x.about(4), inner);
            Check.due("all pinned", x.about(5), inner);
        }
    }

    private static void mirrors() {
        ThresholdLines x = new ThresholdLines(2, 1);
        Check.due("lines without", x.lines(), 1);
        Check.due("twice without", x.walk(0, 2), 6);
        x.set(2, 1, 1);
        Check.due("standing", x.about(3) * 10 + x.about(4), 10);
        Check.due("lines at a standing one", x.lines(), 2);
        x.set(2, 1, 2);
        Check.due("lying", x.about(3) * 10 + x.about(4), 1);
        Check.due("lines at a lying one", x.lines(), 1);
        Check.due("along the top", x.walk(0, 2), 2);
        x.set(2, 1, 0);
        Check.due("none", x.about(3) + x.about(4), 0);
        for (int far : new int[] {-2, -1, 3, 4, Made.LOW, Made.HIGH}) {
            Check.due("no mirror " + far, x.set(2, 1, far), false);
            Check.due("none still", x.mirror(2, 1), 0);
        }
    }

    private static void dots() {
        for (int[] size : new int[][] {{1, 1}, {8, 1}, {1, 8}, {8, 8}, {3, 5}}) {
            ThresholdLines x = new ThresholdLines(size[0], size[1]);
            for (int dotX = 0; dotX < size[0]; dotX++) {
                for (int dotY = 0; dotY < size[1]; dotY++) {
                    Check.due("a dot has no mirror", x.mirror(2 * dotX + 1, 2 * dotY + 1), -1);
                    Check.due("nor gets one", x.set(2 * dotX + 1, 2 * dotY + 1, 1), false);
                    Check.due("nor is pinned", x.pin(2 * dotX + 1, 2 * dotY + 1, true), false);
                    Check.due("nor is begun from", isPoint(size[0], size[1], 2 * dotX + 1, 2 * dotY + 1), false);
                }
            }
        }
    }

    private static void squares() {
        for (int size = 0; size < 64; size++) {
            int wide = 1 + size % 8;
            int high = 1 + size / 8;
            int many = 4 * wide * high;
            ThresholdLines x = new ThresholdLines(wide, high);
            Check.due("squares of " + wide + " " + high, x.about(8), many);
            Check.due("first", x.lineOf(0) >= 0 && x.colour(0) == 0, true);
            Check.due("last", x.lineOf(many - 1) >= 0 && x.colour(many - 1) >= 0, true);
            Check.due("behind the last", x.lineOf(many), -1);
            Check.due("colour behind the last", x.colour(many), -1);
            Check.due("last column", x.coloured(2 * wide - 1, true) >= 0, true);
            Check.due("behind the last column", x.coloured(2 * wide, true), -1);
            Check.due("last row", x.coloured(2 * high - 1, false) >= 0, true);
            Check.due("behind the last row", x.coloured(2 * high, false), -1);
        }
    }

    private static void corners() {
        // A step from a point goes through the square there to the point across; beyond the edge is none.
        for (int i = 0; i <= 6; i++) {
            for (int j = 1 - i % 2; j <= 4; j += 2) {
                for (int way = 0; way < 4; way++) {
                    int toI = i + (way == 0 || way == 3 ? 1 : -1);
                    int toJ = j + (way < 2 ? 1 : -1);
                    boolean inside = toI >= 0 && toI <= 6 && toJ >= 0 && toJ <= 4;
                    ThresholdLines x = new ThresholdLines(1, 1);
                    Check.tape(x, "abcd".substring(way, way + 1));
                    x.back(3, 2, i, j);
                    Check.due("step " + way + " from " + i + " " + j, x.fault(0), inside ? 4 : 2);
                    Check.due("its place", x.fault(1), inside ? 1 : 0);
                }
            }
        }
    }

    private static void numbers() {
        for (int[] size : new int[][] {{1, 8}, {8, 1}, {3, 2}, {8, 8}}) {
            ThresholdLines x = Made.ringed(size[0], size[1]);
            for (int b = 0; b < 2 * size[1]; b++) {
                for (int a = 0; a < 2 * size[0]; a++) {
                    Check.due("line of " + a + " " + b, x.lineOf(2 * size[0] * b + a), b / 2 * size[0] + a / 2);
                }
            }
            Check.due("last one's least", x.line(size[0] * size[1] - 1, 1), 4 * size[0] * size[1] - 2 * size[0] - 2);
        }
    }

    private static void round() {
        for (int[] size : new int[][] {{1, 1}, {1, 8}, {8, 1}, {3, 2}, {8, 8}}) {
            ThresholdLines x = Made.ringed(size[0], size[1]);
            for (int l = 0; l < size[0] * size[1]; l++) {
                for (int dot = 0; dot < size[0] * size[1]; dot++) {
                    Check.due("holds " + l + " " + dot, x.holds(l, dot % size[0], dot / size[0]), l == dot ? 4 : 0);
                }
            }
        }
    }

    private static void lines() {
        Doc.says(0, "A LINE goes through SQUARES from POINT to POINT, each time by one to the left or right and by one up"
            + " or down.", TermsCases::fromPointToPoint);
        Doc.says(0, "At a POINT it goes on straight; but at the left or right EDGE, and at a standing MIRROR, left and right"
            + " change; at the upper or lower EDGE, and at a lying MIRROR, up and down.", TermsCases::straightAndTurned);
        Doc.says(0, "So each SQUARE is gone through by one LINE, once,", TermsCases::once);
        Doc.says(0, "and each LINE closes.", TermsCases::closes);
        Doc.says(0, "LINES are numbered by their least SQUARES (from 0).", TermsCases::numbered);
        Doc.says(0, "THE WALK of a LINE: its SQUARES from the least one on, that one gone through to the right.",
            TermsCases::theWalk);
        Doc.says(0, "COLOUR of a SQUARE: 0 or 1, as its place in its LINE's WALK (from 0) is even or odd.",
            TermsCases::colours);
    }

    /** Drawings of all sizes, plain, ringed and random. */
    private static void ofAll(java.util.function.Consumer<ThresholdLines> test) {
        Random random = new Random(11);
        for (int size = 0; size < 64; size++) {
            test.accept(new ThresholdLines(1 + size % 8, 1 + size / 8));
            test.accept(Made.ringed(1 + size % 8, 1 + size / 8));
            test.accept(Made.random(random, 1 + size % 8, 1 + size / 8));
        }
    }

    private static void fromPointToPoint() {
        ofAll(x -> {
            for (int l = 0; l < x.lines(); l++) {
                List<int[]> points = Made.points(x, l);
                for (int k = 0; k < points.size(); k++) {
                    int[] from = points.get(k);
                    int[] to = points.get((k + 1) % points.size());
                    Check.due("by one to a side", Math.abs(from[0] - to[0]), 1);
                    Check.due("by one up or down", Math.abs(from[1] - to[1]), 1);
                    Check.due("a point", (to[0] + to[1]) % 2, 1);
                    Check.due("inside", Math.min(to[0], to[1]) >= 0 && to[0] <= 2 * x.about(0) && to[1] <= 2 * x.about(1), true);
                }
            }
        });
    }

    private static void straightAndTurned() {
        ThresholdLines one = new ThresholdLines(1, 1);
        Made.same("upper, right, lower, left edge", Made.walk(one, 0).toString(), "[0, 1, 3, 2]");
        for (int mirror = 0; mirror <= 2; mirror++) {
            ThresholdLines x = new ThresholdLines(3, 3);
            for (int[] p : Made.innerPoints(x)) {
                x.set(p[0], p[1], mirror);
                int upperLeft = 6 * (p[1] - 1) + p[0] - 1;
                int upperRight = upperLeft + 1;
                int lowerLeft = upperLeft + 6;
                int goesOn = mirror == 0 ? upperLeft + 7 : mirror == 1 ? lowerLeft : upperRight;
                int other = mirror == 0 ? upperRight : upperLeft + 7;
                int otherOn = mirror == 0 ? lowerLeft : mirror == 1 ? upperRight : lowerLeft;
                String at = "mirror " + mirror + " at " + p[0] + " " + p[1];
                Check.due(at + ", from the upper left", areNext(x, upperLeft, goesOn), true);
                Check.due(at + ", the other two", areNext(x, other, otherOn), true);
            }
        }
        edges();
    }

    private static void edges() {
        ThresholdLines x = new ThresholdLines(3, 2);
        for (int n = 1; n < 6; n += 2) {
            Check.due("upper edge " + n, areNext(x, n - 1, n), true);
            Check.due("lower edge " + n, areNext(x, 18 + n - 1, 18 + n), true);
        }
        for (int n = 1; n < 4; n += 2) {
            Check.due("left edge " + n, areNext(x, 6 * (n - 1), 6 * n), true);
            Check.due("right edge " + n, areNext(x, 6 * n - 1, 6 * n + 5), true);
        }
    }

    /** Whether one square comes straight behind the other, either way round. */
    private static boolean areNext(ThresholdLines x, int one, int other) {
        List<Integer> walk = Made.walk(x, x.lineOf(one));
        int at = walk.indexOf(one);
        int many = walk.size();
        return walk.get((at + 1) % many) == other || walk.get((at + many - 1) % many) == other;
    }

    private static void once() {
        ofAll(x -> {
            Set<Integer> seen = new HashSet<>();
            int gone = 0;
            for (int l = 0; l < x.lines(); l++) {
                for (int square : Made.walk(x, l)) {
                    seen.add(square);
                    gone++;
                    Check.due("its line", x.lineOf(square), l);
                }
            }
            Check.due("squares seen", seen.size(), x.about(8));
            Check.due("once each", gone, x.about(8));
        });
    }

    private static void closes() {
        ofAll(x -> {
            for (int l = 0; l < x.lines(); l++) {
                List<Integer> walk = Made.walk(x, l);
                List<int[]> points = Made.points(x, l);
                int last = walk.get(walk.size() - 1);
                int[] before = points.get(points.size() - 1);
                Check.due("ends at the i it began from", 2 * (last % (2 * x.about(0))) + 1 - before[0], points.get(0)[0]);
                Check.due("ends at the j it began from", 2 * (last / (2 * x.about(0))) + 1 - before[1], points.get(0)[1]);
                Check.due("round some dot or corner", walk.size() >= 4, true);
            }
        });
    }

    private static void numbered() {
        ofAll(x -> {
            int former = -1;
            for (int l = 0; l < x.lines(); l++) {
                int least = Made.walk(x, l).stream().min(Integer::compare).orElse(-1);
                Check.due("least", x.line(l, 1), least);
                Check.due("rising", least > former, true);
                former = least;
            }
            Check.due("from 0", x.lineOf(0), 0);
        });
    }

    private static void theWalk() {
        ofAll(x -> {
            for (int l = 0; l < x.lines(); l++) {
                List<Integer> walk = Made.walk(x, l);
                Check.due("from the least on", walk.get(0), walk.stream().min(Integer::compare).orElse(-1));
                int a = walk.get(0) % (2 * x.about(0));
                int b = walk.get(0) / (2 * x.about(0));
                int right = a + 1;
                int rightJ = (a + b) % 2 == 0 ? b : b + 1;
                int nextA = walk.get(1) % (2 * x.about(0));
                int nextB = walk.get(1) / (2 * x.about(0));
                boolean touches = (nextA == right || nextA + 1 == right) && (nextB == rightJ || nextB + 1 == rightJ);
                Check.due("to the right", touches, true);
            }
        });
    }

    private static void colours() {
        ofAll(x -> {
            for (int l = 0; l < x.lines(); l++) {
                List<Integer> walk = Made.walk(x, l);
                for (int k = 0; k < walk.size(); k++) {
                    Check.due("colour of place " + k, x.colour(walk.get(k)), k % 2);
                }
            }
        });
    }

    private static void joined() {
        Doc.says(0, "PINNED INNER POINTS aren't changed.", TermsCases::pinned);
        Doc.says(0, "JOINED: LINES are made fewer by changing MIRRORS (each INNER POINT once at most):", TermsCases::onceAtMost);
        Doc.says(0, "as few LINES as can be;", TermsCases::fewLines);
        Doc.says(0, "of all ways to that one with the fewest changes;", TermsCases::fewChanges);
        Doc.says(0, "of these the first by the POINTS changed (by j, then i; compared one by one);", TermsCases::firstPoints);
        Doc.says(0, "each changed to the lower one of the two others.", TermsCases::lowerOnes);
    }

    private static void pinned() {
        ThresholdLines x = Made.ringed(8, 8);
        List<int[]> points = Made.innerPoints(x);
        for (int[] p : points) {
            x.pin(p[0], p[1], true);
        }
        String before = Made.seen(x);
        Check.due("all pinned, lines", x.joined(0), 64);
        Check.due("all pinned, changes", x.joined(1), 0);
        Check.due("all pinned, no first change", x.change(0, 0), -1);
        Check.due("all pinned, join", x.join(), 0);
        Made.same("all pinned", Made.seen(x), before);
        for (int[] p : new int[][] {{2, 1}, {15, 14}, {14, 15}, {1, 2}}) {
            x.pin(p[0], p[1], false);
            Made.same("one free", Made.changes(x), p[0] + "," + p[1] + "=0");
            Check.due("one free, lines", x.joined(0), 63);
            x.pin(p[0], p[1], true);
        }
        ThresholdLines y = new ThresholdLines(2, 2);
        y.pin(2, 1, true);
        Made.same("the next instead", Made.changes(y), "1,2=1");
        y.pin(1, 2, true);
        Made.same("the third instead", Made.changes(y), "3,2=1");
        y.pin(3, 2, true);
        Made.same("the last instead", Made.changes(y), "2,3=1");
        y.pin(2, 3, true);
        Made.same("none left", Made.changes(y), "");
        y.pin(2, 1, false);
        Made.same("free again", Made.changes(y), "2,1=1");
    }

    private static void onceAtMost() {
        ofAll(x -> {
            String before = Made.seen(x);
            int former = -1;
            for (int k = 0; k < x.joined(1); k++) {
                int place = 17 * x.change(k, 1) + x.change(k, 0);
                Check.due("another point each time, by j, then i", place > former, true);
                Check.due("an inner point", x.mirror(x.change(k, 0), x.change(k, 1)) >= 0, true);
                former = place;
            }
            Made.same("only told", Made.seen(x), before);
        });
    }

    private static void fewLines() {
        ofAll(x -> {
            Check.due("nothing pinned: one line", x.joined(0), 1);
            x.join();
            Check.due("then it is one", x.lines(), 1);
        });
        // Two standing ones part three dots; what is pinned parts them still.
        ThresholdLines x = Made.ringed(3, 1);
        x.pin(2, 1, true);
        Check.due("parted by one pin", x.joined(0), 2);
        x.pin(4, 1, true);
        Check.due("parted by two", x.joined(0), 3);
        // A pinned point that two lines come to parts nothing if they meet elsewhere.
        ThresholdLines y = new ThresholdLines(2, 2);
        y.pin(2, 1, true);
        y.pin(1, 2, true);
        y.pin(3, 2, true);
        Check.due("they meet at the last point", y.joined(0), 1);
    }

    private static void fewChanges() {
        ofAll(x -> {
            int due = x.lines() - 1;
            Check.due("one change for a line fewer", x.joined(1), due);
            Check.due("join makes as many", x.join(), due);
            Check.due("none for one line", x.joined(1), 0);
            Check.due("and none is made", x.join(), 0);
        });
        Check.due("the most of all", Made.ringed(8, 8).joined(1), 63);
    }

    private static void firstPoints() {
        Made.same("by j, then i", Made.changes(Made.ringed(2, 2)), "2,1=0 1,2=0 3,2=0");
        Made.same("j ahead of i", Made.changes(new ThresholdLines(2, 2)), "2,1=1");
        Made.same("a row of points", Made.changes(Made.ringed(4, 1)), "2,1=0 4,1=0 6,1=0");
        Made.same("a column of points", Made.changes(Made.ringed(1, 4)), "1,2=0 1,4=0 1,6=0");
        // Where lines are joined by then, a point is passed over, though later ones follow.
        Made.same("past a point between", Made.changes(Made.ringed(2, 3)), "2,1=0 1,2=0 3,2=0 1,4=0 3,4=0");
        Made.same("past the last points", Made.changes(Made.ringed(3, 2)), "2,1=0 4,1=0 1,2=0 3,2=0 5,2=0");
        ThresholdLines x = Made.ringed(3, 2);
        x.pin(3, 2, true);
        x.pin(2, 1, true);
        Made.same("what the pinned ones leave", Made.changes(x), "4,1=0 1,2=0 5,2=0 2,3=0 4,3=0");
        x.pin(4, 3, true);
        Made.same("two lines left", Made.changes(x), "4,1=0 1,2=0 5,2=0 2,3=0");
        Check.due("two lines left", x.joined(0), 2);
        ofPinned();
    }

    /** The first points, found by trial: each in turn is changed for good if that leaves a line fewer. */
    private static void ofPinned() {
        Random random = new Random(17);
        for (int n = 0; n < 1000; n++) {
            ThresholdLines x = Made.random(random, 1 + random.nextInt(8), 1 + random.nextInt(8));
            ThresholdLines y = new ThresholdLines(x.about(0), x.about(1));
            for (int[] p : Made.innerPoints(x)) {
                y.set(p[0], p[1], x.mirror(p[0], p[1]));
            }
            int freeOneOf = 1 + random.nextInt(5);
            StringBuilder due = new StringBuilder();
            for (int[] p : Made.innerPoints(x)) {
                boolean pinned = random.nextInt(freeOneOf) != 0;
                x.pin(p[0], p[1], pinned);
                int was = y.mirror(p[0], p[1]);
                int before = y.lines();
                y.set(p[0], p[1], pinned ? was : was == 0 ? 1 : 0);
                if (y.lines() < before) {
                    due.append(due.length() == 0 ? "" : " ").append(p[0]).append(',').append(p[1]).append('=')
                        .append(y.mirror(p[0], p[1]));
                } else {
                    y.set(p[0], p[1], was);
                }
            }
            Made.same("changes by trial", Made.changes(x), due.toString());
            Check.due("lines by trial", x.joined(0), y.lines());
        }
    }

    private static void lowerOnes() {
        ThresholdLines x = new ThresholdLines(2, 2);
        Check.due("none: standing", x.change(0, 2), 1);
        x.join();
        Check.due("none: made standing", x.mirror(2, 1), 1);
        ThresholdLines y = Made.ringed(2, 1);
        Check.due("standing: none", y.change(0, 2), 0);
        y.join();
        Check.due("standing: made none", y.mirror(2, 1), 0);
        ThresholdLines z = Made.ringed(1, 2);
        Check.due("lying: none", z.change(0, 2), 0);
        z.join();
        Check.due("lying: made none", z.mirror(1, 2), 0);
        ofAll(any -> {
            for (int k = 0; k < any.joined(1); k++) {
                int now = any.mirror(any.change(k, 0), any.change(k, 1));
                Check.due("from " + now, any.change(k, 2), now == 0 ? 1 : 0);
            }
        });
    }
}
