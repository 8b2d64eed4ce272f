import java.util.List;
import java.util.Random;

/** Promises 1 to 14: an object, its mirrors and lines. */
final class PromiseCases {
    private PromiseCases() {
    }

    static void all() {
        made();
        mirrors();
        pins();
        lines();
        squaresOfLines();
        colours();
        joined();
    }

    private static void made() {
        Doc.says(1, "A plain DRAWING of so many dots;", PromiseCases::plainDrawing);
        Doc.says(1, "below 1: 1,", PromiseCases::belowOne);
        Doc.says(1, "above 8: 8.", PromiseCases::aboveEight);
        Doc.says(1, "SHELVES empty.", PromiseCases::shelvesEmpty);
    }

    private static void plainDrawing() {
        for (int size = 0; size < 64; size++) {
            ThresholdLines x = new ThresholdLines(1 + size % 8, 1 + size / 8);
            Check.due("wide", x.about(0), 1 + size % 8);
            Check.due("high", x.about(1), 1 + size / 8);
            for (int[] p : Made.innerPoints(x)) {
                Check.due("no mirror", x.mirror(p[0], p[1]), 0);
            }
            Check.due("no mirrors, pins, tape", x.about(3) + x.about(4) + x.about(5) + x.about(7), 0);
        }
    }

    private static void belowOne() {
        for (int few : new int[] {0, -1, -2, -8, -1 << 30, Made.LOW + 1, Made.LOW}) {
            ThresholdLines x = new ThresholdLines(few, 5);
            Check.due("wide of " + few, x.about(0) * 10 + x.about(1), 15);
            ThresholdLines y = new ThresholdLines(5, few);
            Check.due("high of " + few, y.about(0) * 10 + y.about(1), 51);
            Check.due("both of " + few, new ThresholdLines(few, few).about(8), 4);
        }
        Check.due("1 is 1", new ThresholdLines(1, 1).about(8), 4);
    }

    private static void aboveEight() {
        for (int many : new int[] {9, 10, 16, 256, 1 << 30, Made.HIGH - 1, Made.HIGH}) {
            ThresholdLines x = new ThresholdLines(many, 5);
            Check.due("wide of " + many, x.about(0) * 10 + x.about(1), 85);
            ThresholdLines y = new ThresholdLines(5, many);
            Check.due("high of " + many, y.about(0) * 10 + y.about(1), 58);
            Check.due("both of " + many, new ThresholdLines(many, many).about(8), 256);
        }
        Check.due("below and above", new ThresholdLines(Made.LOW, Made.HIGH).about(8), 32);
        Check.due("8 is 8, 7 is 7", new ThresholdLines(8, 7).about(8), 224);
    }

    private static void shelvesEmpty() {
        ThresholdLines x = new ThresholdLines(3, 3);
        Check.due("shelves", x.about(6), 0);
        for (int shelf = 0; shelf < 8; shelf++) {
            Check.due("like 0", x.like(shelf, 0), -1);
            Check.due("like 1", x.like(shelf, 1), -1);
        }
        // One object's shelves are not another's.
        x.keep(2);
        Check.due("a second object's", new ThresholdLines(3, 3).about(6), 0);
    }

    private static void mirrors() {
        Doc.says(2, "The MIRROR at an INNER POINT: true.", PromiseCases::setTrue);
        Doc.says(2, "False for others.", PromiseCases::setFalse);
        Doc.says(3, "The MIRROR at an INNER POINT.", PromiseCases::mirrorThere);
        Doc.says(3, "NONE for others.", PromiseCases::mirrorNone);
    }

    private static void setTrue() {
        for (int[] size : new int[][] {{2, 1}, {1, 2}, {3, 2}, {8, 8}}) {
            ThresholdLines x = new ThresholdLines(size[0], size[1]);
            for (int[] p : Made.innerPoints(x)) {
                for (int mirror : new int[] {2, 2, 1, 0, 1, 2}) {
                    Check.due("set " + p[0] + " " + p[1] + " " + mirror, x.set(p[0], p[1], mirror), true);
                    Check.due("then " + p[0] + " " + p[1], x.mirror(p[0], p[1]), mirror);
                }
            }
            Check.due("each has its own", x.about(4), x.about(2));
        }
        ThresholdLines x = new ThresholdLines(2, 1);
        Check.due("lines before", x.lines(), 1);
        x.set(2, 1, 1);
        Check.due("lines then", x.lines(), 2);
        Check.due("changes then", x.joined(1), 1);
        x.set(2, 1, 0);
        Check.due("lines at last", x.lines(), 1);
        Check.due("changes at last", x.joined(1), 0);
    }

    private static void setFalse() {
        ThresholdLines x = Made.ringed(3, 2);
        String before = Made.seen(x);
        int[] near = {-2, -1, 0, 1, 2, 3, 4, 5, 6, 7, 8};
        for (int i : near) {
            for (int j : near) {
                boolean inner = i > 0 && i < 6 && j > 0 && j < 4 && (i + j) % 2 == 1;
                if (!inner) {
                    Check.due("set " + i + " " + j, x.set(i, j, 2) || x.set(i, j, 0), false);
                }
            }
        }
        for (int far : Made.FAR) {
            Check.due("set " + far + " 1", x.set(far, 1, 2) || x.set(far, 2, 2) || x.set(far, far, 2), false);
            Check.due("set 1 " + far, x.set(1, far, 2) || x.set(2, far, 2) || x.set(far, -far, 2), false);
            Check.due("mirror " + far, x.set(2, 1, far), false);
        }
        Check.due("mirror 3", x.set(2, 1, 3), false);
        Made.same("nothing is set", Made.seen(x), before);
        Check.due("none has one at 1 by 1", new ThresholdLines(1, 1).set(1, 1, 1), false);
    }

    private static void mirrorThere() {
        Random random = new Random(14);
        ThresholdLines x = new ThresholdLines(8, 8);
        List<int[]> points = Made.innerPoints(x);
        int[] put = new int[points.size()];
        for (int n = 0; n < points.size(); n++) {
            put[n] = random.nextInt(3);
            x.set(points.get(n)[0], points.get(n)[1], put[n]);
        }
        for (int n = 0; n < points.size(); n++) {
            Check.due("mirror " + n, x.mirror(points.get(n)[0], points.get(n)[1]), put[n]);
        }
    }

    private static void mirrorNone() {
        for (int[] size : new int[][] {{1, 1}, {8, 1}, {1, 8}, {3, 2}, {8, 8}}) {
            ThresholdLines x = Made.ringed(size[0], size[1]);
            for (int i = -3; i <= 19; i++) {
                for (int j = -3; j <= 19; j++) {
                    boolean inner = i > 0 && i < 2 * size[0] && j > 0 && j < 2 * size[1] && (i + j) % 2 != 0;
                    Check.due("mirror " + i + " " + j, x.mirror(i, j) == -1, !inner);
                }
            }
            for (int far : Made.FAR) {
                Check.due("mirror " + far, x.mirror(far, 1) + x.mirror(far, 2) + x.mirror(1, far) + x.mirror(2, far), -4);
                Check.due("mirror " + far + " twice", x.mirror(far, far) + x.mirror(far, far + 1), -2);
            }
        }
    }

    private static void pins() {
        Doc.says(4, "An INNER POINT is PINNED, or not: true.", PromiseCases::pinTrue);
        Doc.says(4, "False for others.", PromiseCases::pinFalse);
        Doc.says(4, "(A DRAWING that is made anew has none PINNED.)", PromiseCases::nonePinned);
    }

    private static void pinTrue() {
        ThresholdLines x = new ThresholdLines(8, 8);
        int many = 0;
        for (int[] p : Made.innerPoints(x)) {
            Check.due("not pinned already", x.pin(p[0], p[1], false), true);
            Check.due("pins", x.about(5), many);
            Check.due("pin", x.pin(p[0], p[1], true), true);
            Check.due("pin again", x.pin(p[0], p[1], true), true);
            many++;
            Check.due("pins then", x.about(5), many);
        }
        for (int[] p : Made.innerPoints(x)) {
            Check.due("unpin", x.pin(p[0], p[1], false), true);
            many--;
            Check.due("pins at last", x.about(5), many);
        }
        ThresholdLines y = new ThresholdLines(2, 2);
        Check.due("changes", y.change(0, 0), 2);
        y.pin(2, 1, true);
        Check.due("changes of the pinned", y.change(0, 0), 1);
        y.pin(2, 1, false);
        Check.due("changes of the free", y.change(0, 0), 2);
    }

    private static void pinFalse() {
        for (int[] size : new int[][] {{1, 1}, {3, 2}, {8, 8}}) {
            ThresholdLines x = new ThresholdLines(size[0], size[1]);
            for (int i = -2; i <= 18; i++) {
                for (int j = -2; j <= 18; j++) {
                    boolean inner = i > 0 && i < 2 * size[0] && j > 0 && j < 2 * size[1] && (i + j) % 2 != 0;
                    if (!inner) {
                        Check.due("pin " + i + " " + j, x.pin(i, j, true) || x.pin(i, j, false), false);
                    }
                }
            }
            for (int far : Made.FAR) {
                Check.due("pin " + far, x.pin(far, 1, true) || x.pin(far, 2, true) || x.pin(1, far, true)
                    || x.pin(2, far, true) || x.pin(far, far, true), false);
            }
            Check.due("none pinned", x.about(5), 0);
        }
    }

    private static ThresholdLines pinned() {
        ThresholdLines x = new ThresholdLines(2, 2);
        x.pin(2, 1, true);
        x.pin(3, 2, true);
        return x;
    }

    private static void nonePinned() {
        Check.due("new", new ThresholdLines(2, 2).about(5), 0);
        ThresholdLines x = pinned();
        Check.tape(x, "plain 2 2");
        x.draw();
        Check.due("drawn", x.about(5), 0);
        Check.due("and free to change", x.change(0, 0), 2);
        x = pinned();
        x.keep(0);
        Check.due("kept stays pinned", x.about(5), 2);
        Check.tape(x, "kept 0");
        x.draw();
        Check.due("drawn of itself", x.about(5), 0);
        x = pinned();
        Check.tape(x, "abcd");
        x.back(2, 2, 1, 0);
        Check.due("walked back", x.about(5), 0);
        x = pinned();
        Check.tape(x, "plain 9 9");
        x.draw();
        x.back(2, 2, 1, 0);
        x.back(0, 2, 1, 0);
        x.set(2, 1, 1);
        x.join();
        Check.due("not made anew", x.about(5), 2);
        // A smaller drawing between leaves no pins of a larger one.
        x = new ThresholdLines(8, 8);
        x.pin(15, 14, true);
        Check.tape(x, "plain 1 1");
        x.draw();
        Check.due("smaller", x.about(5), 0);
        Check.tape(x, "plain 8 8");
        x.draw();
        Check.due("as large again", x.about(5), 0);
    }

    private static void lines() {
        Doc.says(5, "How many LINES.", PromiseCases::howMany);
        Doc.says(6, "The LINE that goes through a SQUARE.", PromiseCases::through);
        Doc.says(6, "NONE: there is none such.", PromiseCases::throughNone);
        Doc.says(7, "Of a LINE: 0 how many SQUARES,", PromiseCases::howLong);
        Doc.says(7, "1 its least one,", PromiseCases::leastOne);
        Doc.says(7, "2 dots all four of whose SQUARES it goes through,", () -> dots(2, 4));
        Doc.says(7, "3 dots of which it goes through some,", () -> dots(3, 1));
        Doc.says(7, "4 INNER POINTS that it comes to twice.", PromiseCases::twice);
        Doc.says(7, "NONE for others.", PromiseCases::lineNone);
    }

    private static void howMany() {
        Check.due("the smallest", new ThresholdLines(1, 1).lines(), 1);
        Check.due("the largest, plain", new ThresholdLines(8, 8).lines(), 8);
        Check.due("the most of all", Made.ringed(8, 8).lines(), 64);
        Check.due("sizes without a common part", new ThresholdLines(8, 7).lines(), 1);
        ThresholdLines x = Made.ringed(8, 8);
        x.join();
        Check.due("joined", x.lines(), 1);
        Check.tape(x, "plain 3 3");
        x.draw();
        Check.due("drawn", x.lines(), 3);
        Check.tape(x, "abcd");
        x.back(2, 1, 1, 0);
        Check.due("walked back", x.lines(), 2);
    }

    private static void through() {
        ThresholdLines x = new ThresholdLines(2, 2);
        int[] due = {0, 0, 1, 1, 0, 1, 0, 1, 1, 0, 1, 0, 1, 1, 0, 0};
        for (int square = 0; square < 16; square++) {
            Check.due("line of " + square, x.lineOf(square), due[square]);
        }
        ThresholdLines y = Made.ringed(8, 8);
        Check.due("the last square's", y.lineOf(255), 63);
    }

    private static void throughNone() {
        ThresholdLines x = new ThresholdLines(2, 2);
        for (int far : Made.FAR) {
            Check.due("line of " + far, x.lineOf(far), -1);
            Check.due("in the largest " + far, new ThresholdLines(8, 8).lineOf(far), -1);
        }
        for (int square : new int[] {-1, 16, 17, 32, 255}) {
            Check.due("line of " + square, x.lineOf(square), -1);
        }
        // Squares of a larger drawing before are none of the smaller one.
        ThresholdLines y = new ThresholdLines(8, 8);
        y.lines();
        Check.tape(y, "plain 1 1");
        y.draw();
        Check.due("line of 3", y.lineOf(3), 0);
        Check.due("line of 4", y.lineOf(4), -1);
    }

    /** Plain, ringed and random drawings of some sizes. */
    private static void ofSome(java.util.function.Consumer<ThresholdLines> test) {
        Random random = new Random(15);
        for (int[] size : new int[][] {{1, 1}, {1, 8}, {8, 1}, {2, 2}, {3, 2}, {5, 7}, {8, 8}}) {
            test.accept(new ThresholdLines(size[0], size[1]));
            test.accept(Made.ringed(size[0], size[1]));
            test.accept(Made.random(random, size[0], size[1]));
        }
    }

    private static void howLong() {
        Check.due("the shortest", new ThresholdLines(1, 1).line(0, 0), 4);
        ThresholdLines x = new ThresholdLines(8, 8);
        x.join();
        Check.due("the longest", x.line(0, 0), 256);
        ofSome(y -> {
            for (int l = 0; l < y.lines(); l++) {
                int last = y.line(l, 0) - 1;
                Check.due("walk has the last", y.walk(l, last) >= 0 && y.walk(l, last + 1) == -1, true);
            }
        });
    }

    private static void leastOne() {
        ofSome(x -> {
            for (int l = 0; l < x.lines(); l++) {
                int least = 0;
                while (x.lineOf(least) != l) {
                    least++;
                }
                Check.due("least", x.line(l, 1), least);
            }
        });
    }

    private static void dots(int what, int atLeast) {
        ofSome(x -> {
            for (int l = 0; l < x.lines(); l++) {
                int due = 0;
                for (int dot = 0; dot < x.about(0) * x.about(1); dot++) {
                    due += x.holds(l, dot % x.about(0), dot / x.about(0)) >= atLeast ? 1 : 0;
                }
                Check.due("line what " + what, x.line(l, what), due);
            }
        });
        ThresholdLines x = new ThresholdLines(2, 2);
        Check.due("three of two dots, one of two", x.line(0, what), atLeast == 4 ? 0 : 4);
        ThresholdLines y = Made.ringed(2, 2);
        Check.due("one dot alone", y.line(3, what), 1);
        y.join();
        Check.due("all dots", y.line(0, what), 4);
    }

    private static void twice() {
        ThresholdLines x = new ThresholdLines(2, 2);
        Check.due("each point by both lines", x.line(0, 4) + x.line(1, 4), 0);
        x.join();
        Check.due("each point by one line", x.line(0, 4), 4);
        Check.due("no points", new ThresholdLines(1, 1).line(0, 4), 0);
        Check.due("round a dot", Made.ringed(3, 3).line(4, 4), 0);
        ThresholdLines y = new ThresholdLines(8, 8);
        y.join();
        Check.due("the most of all", y.line(0, 4), 112);
        ofSome(any -> {
            int[] times = new int[any.lines()];
            for (int[] p : Made.innerPoints(any)) {
                int lowerRight = 2 * any.about(0) * p[1] + p[0];
                int upper = lowerRight - 2 * any.about(0);
                int l = any.lineOf(upper);
                if (any.lineOf(lowerRight) == l && any.lineOf(lowerRight - 1) == l && any.lineOf(upper - 1) == l) {
                    times[l]++;
                }
            }
            for (int l = 0; l < times.length; l++) {
                Check.due("twice by " + l, any.line(l, 4), times[l]);
            }
        });
    }

    private static void lineNone() {
        ofSome(x -> {
            for (int what = -1; what <= 5; what++) {
                Check.due("behind the last line", x.line(x.lines(), what), -1);
                Check.due("before the first", x.line(-1, what), -1);
            }
            Check.due("what -1", x.line(0, -1), -1);
            Check.due("what 5", x.line(0, 5), -1);
            for (int far : Made.FAR) {
                Check.due("what " + far, x.line(0, far), -1);
                Check.due("line " + far, x.line(far, 0) + x.line(far, 2) + x.line(far, far), -3);
            }
        });
        // Lines of a former drawing are none of this one.
        ThresholdLines y = Made.ringed(8, 8);
        Check.due("line 63", y.line(63, 0), 4);
        y.join();
        Check.due("line 63 then", y.line(63, 0), -1);
        Check.due("line 1 then", y.line(1, 0), -1);
    }

    private static void squaresOfLines() {
        Doc.says(8, "SQUARE k (from 0) of a LINE's WALK.", PromiseCases::squareOfWalk);
        Doc.says(8, "NONE if there is none such.", PromiseCases::noSquareOfWalk);
        Doc.says(9, "How many of a dot's SQUARES a LINE goes through.", PromiseCases::held);
        Doc.says(9, "NONE for others.", PromiseCases::heldNone);
    }

    private static void squareOfWalk() {
        Made.same("of two lines", Made.walk(new ThresholdLines(2, 2), 0).toString(), "[0, 1, 6, 11, 15, 14, 9, 4]");
        Made.same("the second", Made.walk(new ThresholdLines(2, 2), 1).toString(), "[2, 3, 7, 10, 13, 12, 8, 5]");
        ThresholdLines x = Made.ringed(8, 8);
        Made.same("the last one", Made.walk(x, 63).toString(), "[238, 239, 255, 254]");
        x.join();
        Check.due("the longest", Made.walk(x, 0).size(), 256);
    }

    private static void noSquareOfWalk() {
        ofSome(x -> {
            for (int l = 0; l < x.lines(); l++) {
                Check.due("behind the last", x.walk(l, x.line(l, 0)), -1);
                Check.due("before the first", x.walk(l, -1), -1);
                for (int far : Made.FAR) {
                    Check.due("square " + far, x.walk(l, far), -1);
                }
            }
            for (int l : new int[] {-1, x.lines(), Made.LOW, Made.HIGH, 256, 257}) {
                Check.due("no line " + l, x.walk(l, 0), -1);
                Check.due("no line " + l + ", last", x.walk(l, 3), -1);
            }
        });
    }

    private static void held() {
        int[][] due = {{3, 1, 1, 3}, {1, 3, 3, 1}};
        ThresholdLines x = new ThresholdLines(2, 2);
        for (int l = 0; l < 2; l++) {
            for (int dot = 0; dot < 4; dot++) {
                Check.due("holds " + l + " " + dot, x.holds(l, dot % 2, dot / 2), due[l][dot]);
            }
        }
        ofSome(any -> {
            for (int dot = 0; dot < any.about(0) * any.about(1); dot++) {
                int all = 0;
                for (int l = 0; l < any.lines(); l++) {
                    all += any.holds(l, dot % any.about(0), dot / any.about(0));
                }
                Check.due("four in all", all, 4);
            }
        });
    }

    private static void heldNone() {
        for (int[] size : new int[][] {{1, 1}, {3, 2}, {8, 8}}) {
            ThresholdLines x = Made.ringed(size[0], size[1]);
            int many = size[0] * size[1];
            Check.due("the last of all", x.holds(many - 1, size[0] - 1, size[1] - 1), 4);
            Check.due("line " + many, x.holds(many, 0, 0), -1);
            Check.due("line -1", x.holds(-1, 0, 0), -1);
            Check.due("dot right of the last", x.holds(0, size[0], 0), -1);
            Check.due("dot left of the first", x.holds(0, -1, 0), -1);
            Check.due("dot below the last", x.holds(0, 0, size[1]), -1);
            Check.due("dot above the first", x.holds(0, 0, -1), -1);
            for (int far : Made.FAR) {
                Check.due("holds " + far, x.holds(far, 0, 0) + x.holds(0, far, 0) + x.holds(0, 0, far)
                    + x.holds(far, far, far), -4);
            }
        }
    }

    private static void colours() {
        Doc.says(10, "COLOUR of a SQUARE.", PromiseCases::colour);
        Doc.says(10, "NONE: there is none such.", PromiseCases::noColour);
        Doc.says(11, "How many SQUARES of COLOUR 1 there are in row b (column false), in column a.", PromiseCases::coloured);
        Doc.says(11, "NONE for others.", PromiseCases::colouredNone);
    }

    private static void colour() {
        ThresholdLines x = new ThresholdLines(2, 2);
        int[] due = {0, 1, 0, 1, 1, 1, 0, 0, 0, 0, 1, 1, 1, 0, 1, 0};
        for (int square = 0; square < 16; square++) {
            Check.due("colour of " + square, x.colour(square), due[square]);
        }
        x.set(2, 1, 1);
        Check.due("another walk, other colours", x.colour(10), Made.walk(x, 0).indexOf(10) % 2);
    }

    private static void noColour() {
        for (int[] size : new int[][] {{1, 1}, {3, 2}, {8, 8}}) {
            ThresholdLines x = new ThresholdLines(size[0], size[1]);
            int many = 4 * size[0] * size[1];
            Check.due("the last", x.colour(many - 1) >= 0, true);
            Check.due("behind the last", x.colour(many), -1);
            for (int far : Made.FAR) {
                Check.due("colour of " + far, x.colour(far), -1);
            }
        }
    }

    private static void coloured() {
        ofSome(x -> {
            for (int b = 0; b < 2 * x.about(1); b++) {
                int due = 0;
                for (int a = 0; a < 2 * x.about(0); a++) {
                    due += x.colour(2 * x.about(0) * b + a);
                }
                Check.due("row " + b, x.coloured(b, false), due);
            }
            for (int a = 0; a < 2 * x.about(0); a++) {
                int due = 0;
                for (int b = 0; b < 2 * x.about(1); b++) {
                    due += x.colour(2 * x.about(0) * b + a);
                }
                Check.due("column " + a, x.coloured(a, true), due);
            }
        });
    }

    private static void colouredNone() {
        ofSome(x -> {
            Check.due("behind the last row", x.coloured(2 * x.about(1), false), -1);
            Check.due("behind the last column", x.coloured(2 * x.about(0), true), -1);
            Check.due("last row", x.coloured(2 * x.about(1) - 1, false) >= 0, true);
            Check.due("last column", x.coloured(2 * x.about(0) - 1, true) >= 0, true);
            for (int far : Made.FAR) {
                Check.due("row and column " + far, x.coloured(far, false) + x.coloured(far, true), -2);
            }
        });
    }

    private static void joined() {
        Doc.says(12, "JOINED: 0 how many LINES there would be,", PromiseCases::linesThen);
        Doc.says(12, "1 how many changes.", PromiseCases::changesThen);
        Doc.says(12, "NONE for others.", PromiseCases::joinedNone);
        Doc.says(12, "Nothing is changed.", PromiseCases::nothingChanged);
        Doc.says(13, "Of the i-th change (by j, then i): 0 i, 1 j, 2 the MIRROR then.", PromiseCases::change);
        Doc.says(13, "NONE if there is none such.", PromiseCases::noChange);
        Doc.says(14, "The changes are made: how many.", PromiseCases::join);
    }

    private static void linesThen() {
        Check.due("one already", new ThresholdLines(1, 1).joined(0), 1);
        Check.due("of many", Made.ringed(8, 8).joined(0), 1);
        ThresholdLines x = Made.ringed(2, 1);
        x.pin(2, 1, true);
        Check.due("pinned", x.joined(0), 2);
        x.set(2, 1, 0);
        Check.due("set anew", x.joined(0), 1);
    }

    private static void changesThen() {
        Check.due("one already", new ThresholdLines(1, 1).joined(1), 0);
        Check.due("of many", Made.ringed(8, 8).joined(1), 63);
        ThresholdLines x = Made.ringed(2, 1);
        Check.due("one", x.joined(1), 1);
        x.pin(2, 1, true);
        Check.due("pinned", x.joined(1), 0);
        x.pin(2, 1, false);
        x.join();
        Check.due("made", x.joined(1), 0);
    }

    private static void joinedNone() {
        ofSome(x -> {
            Check.due("what 2", x.joined(2), -1);
            for (int far : Made.FAR) {
                Check.due("what " + far, x.joined(far), -1);
            }
        });
    }

    private static void nothingChanged() {
        ofSome(x -> {
            String before = Made.seen(x);
            int lines = x.lines();
            x.joined(0);
            x.joined(1);
            x.change(0, 2);
            Made.same("mirrors", Made.seen(x), before);
            Check.due("lines", x.lines(), lines);
            Check.due("as before", x.joined(1), lines - 1);
        });
    }

    private static void change() {
        ThresholdLines x = Made.ringed(3, 3);
        x.set(4, 1, 0);
        Made.same("in their order", Made.changes(x), "2,1=0 1,2=0 3,2=0 5,2=0 1,4=0 3,4=0 5,4=0");
        Check.due("the last of the most", Made.ringed(8, 8).change(62, 1), 14);
        Check.due("its i", Made.ringed(8, 8).change(62, 0), 15);
    }

    private static void noChange() {
        ofSome(x -> {
            int many = x.joined(1);
            for (int what = 0; what <= 2; what++) {
                Check.due("behind the last", x.change(many, what), -1);
                Check.due("before the first", x.change(-1, what), -1);
                Check.due("the last", x.change(many - 1, what) >= 0, many > 0);
                for (int far : Made.FAR) {
                    Check.due("change " + far, x.change(far, what), -1);
                }
            }
            Check.due("what 3", x.change(0, 3), -1);
            Check.due("what -1", x.change(0, -1), -1);
            for (int far : Made.FAR) {
                Check.due("what " + far, x.change(0, far), -1);
            }
        });
    }

    private static void join() {
        ofSome(x -> {
            int many = x.joined(1);
            int[][] due = new int[many][];
            for (int k = 0; k < many; k++) {
                due[k] = new int[] {x.change(k, 0), x.change(k, 1), x.change(k, 2)};
            }
            ThresholdLines y = new ThresholdLines(x.about(0), x.about(1));
            for (int[] p : Made.innerPoints(x)) {
                y.set(p[0], p[1], x.mirror(p[0], p[1]));
            }
            for (int[] d : due) {
                y.set(d[0], d[1], d[2]);
            }
            Check.due("how many", x.join(), many);
            Made.same("these and no others", Made.seen(x), Made.seen(y));
            Check.due("one line", x.lines(), 1);
            Check.due("no more", x.join(), 0);
        });
    }
}
