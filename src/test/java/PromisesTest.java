/** For each promise: ordinary inputs, the edges that the document names, wrong inputs. */
public final class PromisesTest {
    private static final int LOW = Integer.MIN_VALUE;
    private static final int HIGH = Integer.MAX_VALUE;

    private PromisesTest() {
    }

    public static void main(String[] args) {
        newObject();
        set();
        mirror();
        pin();
        lines();
        lineOf();
        line();
        walk();
        holds();
        colour();
        coloured();
        joined();
        change();
        join();
        feed();
        end();
        draw();
        drawFaults();
        back();
        backFaults();
        fault();
        keep();
        like();
        alike();
        about();
        Check.finish();
    }

    private static ThresholdLines drawn(String text) {
        ThresholdLines x = new ThresholdLines(1, 1);
        Check.tape(x, text);
        Check.due("draw of " + text, x.draw(), (long) x.about(0) * x.about(1));
        return x;
    }

    private static void newObject() {
        int[] given = {LOW, -1, 0, 1, 2, 7, 8, 9, HIGH};
        int[] due = {1, 1, 1, 1, 2, 7, 8, 8, 8};
        for (int n = 0; n < given.length; n++) {
            ThresholdLines x = new ThresholdLines(given[n], 3);
            Check.due("wide of " + given[n], x.about(0), due[n]);
            Check.due("high beside it", x.about(1), 3);
            ThresholdLines y = new ThresholdLines(3, given[n]);
            Check.due("high of " + given[n], y.about(1), due[n]);
            Check.due("plain", x.about(3) + x.about(4) + x.about(5) + x.about(6) + x.about(7), 0);
        }
        for (int shelf = 0; shelf < 8; shelf++) {
            Check.due("new shelf " + shelf, new ThresholdLines(2, 2).like(shelf, 0), -1);
        }
    }

    private static void set() {
        ThresholdLines x = new ThresholdLines(3, 2);
        Check.due("set 1 2 2", x.set(1, 2, 2), true);
        Check.due("set 5 2 1", x.set(5, 2, 1), true);
        Check.due("set 4 3 2", x.set(4, 3, 2), true);
        Check.due("mirror 1 2", x.mirror(1, 2), 2);
        Check.due("mirror 5 2", x.mirror(5, 2), 1);
        Check.due("mirror 4 3", x.mirror(4, 3), 2);
        Check.due("set 4 3 0", x.set(4, 3, 0), true);
        Check.due("mirror 4 3", x.mirror(4, 3), 0);
        int[][] wrong = {{0, 1, 1}, {6, 1, 1}, {1, 0, 1}, {1, 4, 1}, {1, 1, 1}, {2, 2, 1}, {7, 2, 1},
            {-1, 2, 1}, {2, -1, 1}, {2, 5, 1}, {LOW, 1, 1}, {HIGH, 2, 1}, {2, HIGH, 1}, {1, LOW, 1},
            {1, 2, 3}, {1, 2, -1}, {1, 2, HIGH}, {1, 2, LOW}};
        for (int[] w : wrong) {
            Check.due("set " + w[0] + " " + w[1] + " " + w[2], x.set(w[0], w[1], w[2]), false);
        }
        Check.due("still 2", x.mirror(1, 2), 2);
        x.pin(1, 2, true);
        Check.due("set of a pinned point", x.set(1, 2, 1), true);
        Check.due("pinned, set", x.mirror(1, 2), 1);
        Check.due("stays pinned", x.about(5), 1);
    }

    private static void mirror() {
        ThresholdLines x = new ThresholdLines(8, 8);
        int inner = 0;
        for (int i = -2; i <= 18; i++) {
            for (int j = -2; j <= 18; j++) {
                boolean is = i > 0 && i < 16 && j > 0 && j < 16 && (i + j) % 2 == 1;
                Check.due("mirror " + i + " " + j, x.mirror(i, j), is ? 0 : -1);
                Check.due("set " + i + " " + j, x.set(i, j, 1 + (i + 2 * j & 1)), is);
                inner += is ? 1 : 0;
            }
        }
        Check.due("inner points", inner, 112);
        for (int i = 1; i < 16; i++) {
            for (int j = 1 + i % 2; j < 16; j += 2) {
                Check.due("mirror then " + i + " " + j, x.mirror(i, j), 1 + (i + 2 * j & 1));
            }
        }
        Check.due("mirror far", x.mirror(HIGH, HIGH), -1);
        Check.due("mirror far", x.mirror(LOW, HIGH), -1);
    }

    private static void pin() {
        ThresholdLines x = new ThresholdLines(2, 2);
        Check.due("pin 2 1", x.pin(2, 1, true), true);
        Check.due("pin 2 1 again", x.pin(2, 1, true), true);
        Check.due("pin 1 2", x.pin(1, 2, true), true);
        Check.due("two pinned", x.about(5), 2);
        Check.due("unpin", x.pin(2, 1, false), true);
        Check.due("one pinned", x.about(5), 1);
        Check.due("pin edge", x.pin(0, 1, true), false);
        Check.due("pin dot", x.pin(1, 1, true), false);
        Check.due("pin edge", x.pin(4, 1, false), false);
        Check.due("pin far", x.pin(LOW, HIGH, true), false);
        Check.due("pin far", x.pin(HIGH, 2, true), false);
        x.join();
        Check.due("pins stay with join", x.about(5), 1);
        Check.tape(x, "plain 2");
        x.draw();
        Check.due("pins stay with a fault", x.about(5), 1);
        Check.tape(x, "plain 2 2");
        x.draw();
        Check.due("none pinned, drawn", x.about(5), 0);
        x.pin(2, 1, true);
        Check.tape(x, "abx");
        x.back(2, 2, 1, 0);
        Check.due("pins stay with a fault of a walk", x.about(5), 1);
        Check.tape(x, "abcd");
        x.back(2, 2, 1, 0);
        Check.due("none pinned, walked", x.about(5), 0);
        Check.due("shelf forgets pins", pinnedAfterKept(), 0);
    }

    private static int pinnedAfterKept() {
        ThresholdLines x = new ThresholdLines(2, 2);
        x.pin(2, 1, true);
        x.keep(0);
        Check.tape(x, "kept 0");
        x.draw();
        return x.about(5);
    }

    private static int greatestDivisor(int a, int b) {
        return b == 0 ? a : greatestDivisor(b, a % b);
    }

    private static void lines() {
        for (int wide = 1; wide <= 8; wide++) {
            for (int high = 1; high <= 8; high++) {
                // Without mirrors there are as many as the greatest divisor of both: known of mirror curves.
                Check.due("lines " + wide + " " + high, new ThresholdLines(wide, high).lines(), greatestDivisor(wide, high));
            }
        }
        ThresholdLines x = new ThresholdLines(8, 8);
        for (int j = 1; j < 16; j++) {
            for (int i = 1 + j % 2; i < 16; i += 2) {
                x.set(i, j, i % 2 == 0 ? 1 : 2);
            }
        }
        Check.due("a line round each dot", x.lines(), 64);
        Check.due("its last", x.line(63, 1), 2 * 8 * 14 + 14);
    }

    private static void lineOf() {
        ThresholdLines x = new ThresholdLines(3, 1);
        x.set(2, 1, 1);
        x.set(4, 1, 1);
        int[] due = {0, 0, 1, 1, 2, 2, 0, 0, 1, 1, 2, 2};
        for (int square = 0; square < 12; square++) {
            Check.due("lineOf " + square, x.lineOf(square), due[square]);
        }
        Check.due("lineOf 12", x.lineOf(12), -1);
        Check.due("lineOf -1", x.lineOf(-1), -1);
        Check.due("lineOf far", x.lineOf(HIGH), -1);
        Check.due("lineOf low", x.lineOf(LOW), -1);
    }

    private static void line() {
        ThresholdLines x = new ThresholdLines(3, 3);
        x.set(2, 1, 1);
        x.set(1, 2, 2);
        int squares = 0;
        for (int l = 0; l < x.lines(); l++) {
            squares += x.line(l, 0);
            Check.due("least is first of the walk", x.line(l, 1), x.walk(l, 0));
        }
        Check.due("all squares", squares, 36);
        Check.due("corner's line", x.line(0, 0), 4);
        Check.due("corner's line, dots held", x.line(0, 2), 1);
        Check.due("corner's line, dots met", x.line(0, 3), 1);
        Check.due("corner's line, twice", x.line(0, 4), 0);
        ThresholdLines y = new ThresholdLines(3, 2);
        Check.due("one line, dots held", y.line(0, 2), 6);
        Check.due("one line, all points twice", y.line(0, 4), 7);
        Check.due("line far", x.line(x.lines(), 0), -1);
        Check.due("line -1", x.line(-1, 0), -1);
        Check.due("line high", x.line(HIGH, 4), -1);
        Check.due("line low", x.line(LOW, 4), -1);
        Check.due("what -1", x.line(0, -1), -1);
        Check.due("what 5", x.line(0, 5), -1);
        Check.due("what high", x.line(0, HIGH), -1);
    }

    private static void walk() {
        ThresholdLines x = new ThresholdLines(3, 1);
        int[] due = {0, 1, 8, 9, 4, 5, 11, 10, 3, 2, 7, 6};
        for (int k = 0; k < due.length; k++) {
            Check.due("walk " + k, x.walk(0, k), due[k]);
        }
        Check.due("walk behind", x.walk(0, 12), -1);
        Check.due("walk -1", x.walk(0, -1), -1);
        Check.due("walk low", x.walk(0, LOW), -1);
        Check.due("walk high", x.walk(0, HIGH), -1);
        Check.due("walk of no line", x.walk(1, 0), -1);
        Check.due("walk of no line", x.walk(-1, 0), -1);
        Check.due("walk of no line", x.walk(HIGH, HIGH), -1);
        ThresholdLines y = new ThresholdLines(2, 2);
        // The second line's least square, 2, has a + b even: to the right it goes up.
        int[] second = {2, 3, 7, 10, 13, 12, 8, 5};
        for (int k = 0; k < second.length; k++) {
            Check.due("second walk " + k, y.walk(1, k), second[k]);
        }
        y.set(2, 1, 1);
        y.set(1, 2, 2);
        y.set(3, 2, 2);
        y.set(2, 3, 1);
        Check.due("round the last dot", y.walk(3, 0), 10);
        Check.due("round the last dot", y.walk(3, 1), 11);
        Check.due("round the last dot", y.walk(3, 2), 15);
        Check.due("round the last dot", y.walk(3, 3), 14);
        Check.due("round the last dot", y.walk(3, 4), -1);
        // Inside out, a line goes round the middle corner: its least square has a + b even as well.
        y.set(2, 1, 2);
        y.set(1, 2, 1);
        y.set(3, 2, 1);
        y.set(2, 3, 2);
        Check.due("middle line", y.walk(1, 0), 5);
        Check.due("middle line", y.walk(1, 1), 6);
        Check.due("middle line", y.walk(1, 2), 10);
        Check.due("middle line", y.walk(1, 3), 9);
    }

    private static void holds() {
        ThresholdLines x = new ThresholdLines(2, 2);
        int[][] due = {{3, 1, 1, 3}, {1, 3, 3, 1}};
        for (int l = 0; l < 2; l++) {
            for (int dot = 0; dot < 4; dot++) {
                Check.due("holds " + l + " " + dot, x.holds(l, dot % 2, dot / 2), due[l][dot]);
            }
        }
        int[][] wrong = {{2, 0, 0}, {-1, 0, 0}, {0, -1, 0}, {0, 2, 0}, {0, 0, -1}, {0, 0, 2}, {LOW, 0, 0},
            {HIGH, 0, 0}, {0, HIGH, 0}, {0, 0, HIGH}, {0, LOW, 0}, {0, 0, LOW}};
        for (int[] w : wrong) {
            Check.due("holds " + w[0] + " " + w[1] + " " + w[2], x.holds(w[0], w[1], w[2]), -1);
        }
    }

    private static void colour() {
        ThresholdLines x = new ThresholdLines(3, 1);
        int[] walked = {0, 1, 8, 9, 4, 5, 11, 10, 3, 2, 7, 6};
        for (int k = 0; k < walked.length; k++) {
            Check.due("colour " + walked[k], x.colour(walked[k]), k % 2);
        }
        Check.due("colour 12", x.colour(12), -1);
        Check.due("colour -1", x.colour(-1), -1);
        Check.due("colour high", x.colour(HIGH), -1);
        Check.due("colour low", x.colour(LOW), -1);
    }

    private static void coloured() {
        // Colours, row by row: 0 1 1 0 0 1 and 1 0 0 1 1 0.
        ThresholdLines x = new ThresholdLines(3, 1);
        Check.due("row 0", x.coloured(0, false), 3);
        Check.due("row 1", x.coloured(1, false), 3);
        Check.due("row 2", x.coloured(2, false), -1);
        Check.due("row -1", x.coloured(-1, false), -1);
        for (int a = 0; a < 6; a++) {
            Check.due("column " + a, x.coloured(a, true), x.colour(a) + x.colour(6 + a));
        }
        Check.due("column 6", x.coloured(6, true), -1);
        Check.due("column -1", x.coloured(-1, true), -1);
        Check.due("column high", x.coloured(HIGH, true), -1);
        Check.due("row low", x.coloured(LOW, false), -1);
        Check.due("row high", x.coloured(HIGH, false), -1);
    }

    private static void joined() {
        ThresholdLines x = new ThresholdLines(3, 3);
        Check.due("lines first", x.lines(), 3);
        Check.due("joined 0", x.joined(0), 1);
        Check.due("joined 1", x.joined(1), 2);
        Check.due("joined 2", x.joined(2), -1);
        Check.due("joined -1", x.joined(-1), -1);
        Check.due("joined high", x.joined(HIGH), -1);
        Check.due("nothing changed", x.lines(), 3);
        Check.due("nothing changed", x.about(3) + x.about(4), 0);
        for (int j = 1; j < 6; j++) {
            for (int i = 1 + j % 2; i < 6; i += 2) {
                x.pin(i, j, true);
            }
        }
        Check.due("all pinned 0", x.joined(0), 3);
        Check.due("all pinned 1", x.joined(1), 0);
        x.pin(2, 1, false);
        Check.due("one free 0", x.joined(0), 2);
        Check.due("one free 1", x.joined(1), 1);
    }

    private static void change() {
        ThresholdLines x = new ThresholdLines(3, 3);
        Check.due("change 0 i", x.change(0, 0), 2);
        Check.due("change 0 j", x.change(0, 1), 1);
        Check.due("change 0 then", x.change(0, 2), 1);
        Check.due("change 1 i", x.change(1, 0), 4);
        Check.due("change 1 j", x.change(1, 1), 1);
        Check.due("change 1 then", x.change(1, 2), 1);
        Check.due("change 2", x.change(2, 0), -1);
        Check.due("change 2, then", x.change(2, 2), -1);
        Check.due("change -1", x.change(-1, 0), -1);
        Check.due("change -1, then", x.change(-1, 2), -1);
        Check.due("change high, then", x.change(HIGH, 2), -1);
        Check.due("change high", x.change(HIGH, 0), -1);
        Check.due("change low", x.change(LOW, 0), -1);
        Check.due("change what 3", x.change(0, 3), -1);
        Check.due("change what -1", x.change(0, -1), -1);
        x.pin(2, 1, true);
        Check.due("pinned, i", x.change(0, 0), 4);
        ThresholdLines y = new ThresholdLines(2, 1);
        y.set(2, 1, 1);
        Check.due("standing goes", y.change(0, 2), 0);
        ThresholdLines z = new ThresholdLines(1, 2);
        z.set(1, 2, 2);
        Check.due("lying goes", z.change(0, 2), 0);
        Check.due("lying goes, i", z.change(0, 0), 1);
        Check.due("lying goes, j", z.change(0, 1), 2);
    }

    private static void join() {
        ThresholdLines x = new ThresholdLines(6, 6);
        Check.due("join", x.join(), 5);
        Check.due("one line", x.lines(), 1);
        Check.due("standing", x.about(3), 5);
        Check.due("join again", x.join(), 0);
        Check.due("joined then", x.joined(1), 0);
        ThresholdLines y = new ThresholdLines(2, 2);
        y.pin(2, 1, true);
        Check.due("join past a pin", y.join(), 1);
        Check.due("pinned stays", y.mirror(2, 1), 0);
        Check.due("next one", y.mirror(1, 2), 1);
        Check.due("the line", y.line(0, 0), 16);
    }

    private static void feed() {
        ThresholdLines x = new ThresholdLines(1, 1);
        for (int n = 1; n <= 10; n++) {
            Check.due("feed " + n, x.feed(n, -n, HIGH, LOW, 0), 20 * n);
        }
        Check.due("feed full", x.feed(0, 0, 0, 0, 0), -1);
        Check.due("full stays", x.about(7), 200);
        x.end(181);
        Check.due("feed, would be 201", x.feed(0, 0, 0, 0, 0), -1);
        Check.due("none came", x.about(7), 181);
        x.end(180);
        Check.due("feed to 200", x.feed(0, 0, 0, 0, 0), 200);
        x.end(0);
        // "plain 3 2": the highest byte of a first, and behind what is there.
        x.feed(0x706c6169, 0x6e203300, 0, 0, 0);
        x.end(7);
        x.feed(0x20320a20, 0x20202020, 0x0a0a0a0a, 0x20202020, 0x20202020);
        Check.due("draw in two pieces", x.draw(), 6);
        Check.due("no fault", x.fault(0), 0);
    }

    private static void end() {
        ThresholdLines x = new ThresholdLines(1, 1);
        Check.due("end 0", x.end(0), 0);
        Check.due("end 1 of none", x.end(1), -1);
        Check.due("end -1", x.end(-1), -1);
        x.feed(0, 0, 0, 0, 0);
        Check.due("end 21", x.end(21), -1);
        Check.due("nothing done", x.about(7), 20);
        Check.due("end 20", x.end(20), 20);
        Check.due("end low", x.end(LOW), -1);
        Check.due("end high", x.end(HIGH), -1);
        Check.due("end 3", x.end(3), 3);
        Check.due("three", x.about(7), 3);
        Check.due("end 4", x.end(4), -1);
    }

    private static void draw() {
        ThresholdLines x = drawn("plain 8 8");
        Check.due("wide", x.about(0), 8);
        x = drawn("set 2 1 1set 1 2 2 plain2 3");
        Check.due("set", x.mirror(2, 1) * 10 + x.mirror(1, 2), 12);
        Check.due("tape empty", x.about(7), 0);
        x = drawn("set 2 1 0 set 2 1 1 plain 2 1");
        Check.due("outer set last", x.mirror(2, 1), 0);
        x = drawn("turn set 2 3 1 set 1 2 2 plain 3 2");
        Check.due("turned size", x.about(0) * 10 + x.about(1), 23);
        Check.due("standing lies", x.mirror(1, 2), 2);
        Check.due("lying stands", x.mirror(2, 1), 1);
        x = drawn("flip set 1 2 2 set 2 1 1 plain 3 2");
        Check.due("flipped", x.mirror(5, 2), 2);
        Check.due("flipped", x.mirror(4, 1), 1);
        Check.due("flipped", x.mirror(1, 2) + x.mirror(2, 1), 0);
        x = drawn("beside set 1 2 1 plain 1 2 set 2 1 2 plain 2 2");
        Check.due("beside size", x.about(0) * 10 + x.about(1), 32);
        Check.due("beside", x.mirror(1, 2) * 10 + x.mirror(4, 1), 12);
        Check.due("between", x.mirror(2, 1) + x.mirror(2, 3), 0);
        x = drawn("above set 2 1 1 plain 2 1 set 2 1 2 set 1 2 1 plain 2 2");
        Check.due("above size", x.about(0) * 10 + x.about(1), 23);
        Check.due("above", x.mirror(2, 1) * 100 + x.mirror(2, 3) * 10 + x.mirror(1, 4), 121);
        Check.due("between", x.mirror(1, 2) + x.mirror(3, 2), 0);
        x = drawn("over set 2 1 1 set 1 2 1 plain 2 2 set 2 1 2 set 3 2 2 plain 2 2");
        Check.due("over", x.mirror(2, 1) * 100 + x.mirror(1, 2) * 10 + x.mirror(3, 2), 212);
        x = drawn("row 8 plain 1 8");
        Check.due("row of eight", x.about(0) * 10 + x.about(1), 88);
        x = drawn("row 1 set 2 1 1 plain 2 1");
        Check.due("row of one", x.about(0) * 10 + x.mirror(2, 1), 21);
        x = drawn("row 4 set 2 1 1 plain 2 1");
        Check.due("row", x.mirror(2, 1) + x.mirror(6, 1) + x.mirror(10, 1) + x.mirror(14, 1), 4);
        Check.due("row, between", x.about(3), 4);
        x.keep(7);
        Check.tape(x, "\n\nover\nturn turn kept 7 plain 08 0001 ");
        Check.due("kept", x.draw(), 8);
        Check.due("kept is so by two turns", x.like(7, 0), 1);
        x = drawn("beside beside beside beside beside beside beside plain 1 1 plain 1 1 plain 1 1 plain 1 1"
            + " plain 1 1 plain 1 1 plain 1 1 plain 1 1");
        Check.due("left deep", x.about(0), 8);
        x = drawn("over plain 1 1 over plain 1 1 over plain 1 1 over plain 1 1 over plain 1 1 over plain 1 1"
            + " over plain 1 1 over plain 1 1 plain 1 1");
        Check.due("right deep, eight open", x.about(0), 1);
    }

    private static void drawFault(String text, int kind, int place) {
        ThresholdLines x = new ThresholdLines(3, 2);
        x.set(2, 1, 2);
        x.keep(3);
        x.pin(2, 3, true);
        Check.tape(x, text);
        Check.due("draw of " + text, x.draw(), kind == 0 ? (long) x.about(0) * x.about(1) : -1);
        Check.due("fault of " + text, x.fault(0), kind);
        Check.due("place in " + text, x.fault(1), place);
        Check.due("tape empty after " + text, x.about(7), 0);
        if (kind != 0) {
            Check.due("former stays after " + text, x.like(3, 0), 1);
            Check.due("former's pins stay after " + text, x.about(5), 1);
        }
    }

    private static void drawFaults() {
        drawFault("", 1, 0);
        drawFault(" \n ", 1, 3);
        drawFault("plain", 1, 5);
        drawFault("plain 1 ", 1, 8);
        drawFault("set 1 2 1", 1, 9);
        drawFault("plain 1 1 \n", 0, -1);
        drawFault("plain 1 1 1", 1, 10);
        drawFault("plain 1 1 plain", 1, 10);
        drawFault("plain 1 1.", 1, 9);
        drawFault("plain 1\t1", 1, 7);
        drawFault("plain 1-1", 1, 7);
        drawFault("plain 1 1" + (char) 0, 1, 9);
        drawFault("plain 1 1" + (char) 255, 1, 9);
        drawFault("plainn 1 1", 1, 0);
        drawFault("plai 1 1", 1, 0);
        drawFault(" Plain 1 1", 1, 1);
        drawFault("turnplain 1 1", 1, 0);
        drawFault("turnz plain 1 1", 1, 0);
        drawFault("turna plain 1 1", 1, 0);
        drawFault("turn{ plain 1 1", 1, 4);
        drawFault("turn 1", 1, 5);
        drawFault("row plain 1 1", 1, 4);
        drawFault("kept plain", 1, 5);
        drawFault("kept", 1, 4);
        drawFault("7", 1, 0);
        drawFault("plain 0 1", 2, 6);
        drawFault("plain 1 0", 2, 8);
        drawFault("plain 9 9", 2, 6);
        drawFault("plain 1 9", 2, 8);
        drawFault("plain 1 00000000000000000000000000000008", 0, -1);
        drawFault("plain 1 4294967297", 2, 8);
        drawFault("plain 18446744073709551617 1", 2, 6);
        drawFault("set 17 1 1 plain 8 8", 2, 4);
        drawFault("set 16 17 1 plain 8 8", 2, 7);
        drawFault("set 1 1 3 plain 8 8", 2, 8);
        drawFault("set 16 1 1 plain 8 8", 4, 0);
        drawFault("set 1 0 1 plain 8 8", 4, 0);
        drawFault("set 1 1 0 plain 8 8", 4, 0);
        drawFault("set 15 14 0 plain 8 8", 0, -1);
        drawFault("row 0 plain 1 1", 2, 4);
        drawFault("row 9 plain 1 1", 2, 4);
        drawFault("row 3 plain 3 1", 4, 0);
        drawFault("row 8 plain 1 1", 0, -1);
        drawFault("kept 3", 0, -1);
        drawFault("kept 2", 2, 5);
        drawFault("kept 8", 2, 5);
        drawFault("kept 300", 2, 5);
        drawFault("beside plain 1 1 plain 1 2", 4, 0);
        drawFault("beside plain 4 1 plain 5 1", 4, 0);
        drawFault("above plain 1 1 plain 2 1", 4, 0);
        drawFault("above plain 1 4 plain 1 5", 4, 0);
        drawFault("over plain 1 2 plain 2 1", 4, 0);
        drawFault("over plain 8 8 plain 8 8", 0, -1);
        // An E's end comes ahead of what follows it, and an inner E's ahead of the outer one's.
        drawFault("turn set 1 1 1 plain 2 2 ?", 4, 5);
        drawFault("beside set 1 1 1 plain 2 2 plain 9 1", 4, 7);
        drawFault("set 1 1 1 set 3 3 1 plain 2 2", 4, 10);
        drawFault("above plain 1 1 beside plain 4 1 plain 5 1", 4, 16);
        drawFault("beside plain 8 1 turn plain 1 x", 1, 30);
        drawFault("flip flip flip flip flip flip flip flip plain 1 1", 0, -1);
        drawFault("flip flip flip flip flip flip flip flip kept 3", 0, -1);
        drawFault("flip flip flip flip flip flip flip flip row 9 plain 1 1", 3, 40);
        drawFault("flip flip flip flip flip flip flip flip set", 3, 40);
        drawFault("flip flip flip flip flip flip flip flip rows", 1, 40);
        drawFault("flip flip flip flip flip flip flip flip 9", 1, 40);
        drawFault("row 1 row 1 row 1 row 1 row 1 row 1 row 1 row 1 over", 3, 48);
        drawFault("beside turn turn turn turn turn turn turn plain 1 1 turn turn turn turn turn turn turn plain 1 1", 0, -1);
        drawFault("beside plain 1 1 turn turn turn turn turn turn turn turn", 3, 52);
    }

    private static void walkBack(String steps, int wide, int high, int i, int j, int due) {
        ThresholdLines x = new ThresholdLines(1, 1);
        Check.tape(x, steps);
        Check.due("back of " + steps, x.back(wide, high, i, j), due);
        Check.due("fault of " + steps, x.fault(0), 0);
        Check.due("no place of " + steps, x.fault(1), -1);
        Check.due("tape empty", x.about(7), 0);
        Check.due("wide", x.about(0), wide);
        Check.due("high", x.about(1), high);
    }

    private static void back() {
        walkBack("abcd", 1, 1, 1, 0, 0);
        walkBack("bcda", 1, 1, 2, 1, 0);
        walkBack("dabc", 1, 1, 0, 1, 0);
        walkBack("abcd", 8, 8, 1, 0, 2);
        walkBack("abcd", 8, 8, 7, 6, 4);
        // Round a dot from an inner point, and round a corner that is no dot.
        ThresholdLines x = new ThresholdLines(1, 1);
        Check.tape(x, "cdab");
        Check.due("round a dot", x.back(3, 3, 3, 4), 4);
        Check.due("its sides stand", x.mirror(2, 3) * 10 + x.mirror(4, 3), 11);
        Check.due("its ends lie", x.mirror(3, 2) * 10 + x.mirror(3, 4), 22);
        Check.due("others none", x.about(3) + x.about(4), 4);
        Check.tape(x, "abcd");
        Check.due("round a corner", x.back(2, 2, 2, 1), 4);
        Check.due("it lies, where it began too", x.mirror(2, 1), 2);
        Check.due("it stands", x.mirror(3, 2), 1);
        Check.due("the line's squares", x.line(x.lineOf(5), 0), 4);
        // Through its own beginning: straight on, then at a lying mirror.
        Check.tape(x, "dabccbad");
        Check.due("through its beginning", x.back(2, 1, 2, 1), 1);
        Check.due("straight on", x.mirror(2, 1), 0);
        Check.tape(x, "dabcbcda");
        Check.due("by its beginning", x.back(2, 1, 2, 1), 1);
        Check.due("at a lying one", x.mirror(2, 1), 2);
    }

    private static void backFault(String steps, int[] at, int kind, int place) {
        ThresholdLines x = new ThresholdLines(2, 1);
        x.set(2, 1, 1);
        x.keep(0);
        Check.tape(x, steps);
        Check.due("back of " + steps, x.back(at[0], at[1], at[2], at[3]), -1);
        Check.due("fault of " + steps, x.fault(0), kind);
        Check.due("place of " + steps, x.fault(1), place);
        Check.due("former stays", x.like(0, 0), 1);
        Check.due("tape empty", x.about(7), 0);
    }

    private static void backFaults() {
        int[] top = {1, 1, 1, 0};
        int[] wide = {2, 1, 1, 0};
        backFault("", top, 4, 0);
        backFault("e", top, 1, 0);
        backFault("`", top, 1, 0);
        backFault("A", top, 1, 0);
        backFault(" abcd", top, 1, 0);
        backFault("a" + (char) 0, top, 1, 1);
        backFault("d", top, 2, 0);
        backFault("aa", top, 2, 1);
        backFault("ac", top, 3, 1);
        backFault("abcda", top, 3, 4);
        backFault("abcdb", top, 3, 4);
        backFault("abcdc", top, 2, 4);
        backFault("abcdx", top, 1, 4);
        backFault("abc", top, 4, 3);
        backFault("a", top, 4, 1);
        backFault("aad", wide, 4, 3);
        backFault("aaddx", wide, 2, 3);
        ThresholdLines x = new ThresholdLines(3, 3);
        Check.tape(x, "abcd");
        int[][] wrong = {{0, 1, 1, 0}, {1, 0, 1, 0}, {9, 1, 1, 0}, {1, 9, 1, 0}, {1, 1, 0, 0}, {1, 1, 1, 1},
            {1, 1, 3, 0}, {1, 1, -1, 0}, {1, 1, 0, -1}, {1, 1, 0, 3}, {1, 1, 2, 2}, {LOW, 1, 1, 0},
            {1, HIGH, 1, 0}, {1, 1, HIGH, 0}, {1, 1, 0, HIGH}, {1, 1, LOW, 1}, {HIGH, HIGH, 1, 0}};
        for (int[] w : wrong) {
            Check.due("back of " + w[0] + " " + w[1] + " " + w[2] + " " + w[3], x.back(w[0], w[1], w[2], w[3]), -1);
            Check.due("tape stays", x.about(7), 4);
            Check.due("none was read", x.fault(0), -1);
            Check.due("former stays", x.about(0), 3);
        }
        Check.due("and then it is read", x.back(1, 1, 1, 0), 0);
    }

    private static void fault() {
        ThresholdLines x = new ThresholdLines(1, 1);
        Check.due("ahead of any 0", x.fault(0), -1);
        Check.due("ahead of any 1", x.fault(1), -1);
        Check.tape(x, "plain 2 2");
        x.draw();
        Check.due("without", x.fault(0), 0);
        Check.due("without", x.fault(1), -1);
        Check.due("what 2", x.fault(2), -1);
        Check.due("what -1", x.fault(-1), -1);
        Check.tape(x, "plain 2 9");
        x.draw();
        Check.due("with", x.fault(0), 2);
        Check.due("with", x.fault(1), 8);
        Check.due("what 2, with", x.fault(2), -1);
        Check.tape(x, "abcd");
        x.back(1, 1, 5, 0);
        Check.due("not read, so the former fault", x.fault(0), 2);
        x.back(1, 1, 1, 0);
        Check.due("read", x.fault(0), 0);
        Check.due("read", x.fault(1), -1);
    }

    private static void keep() {
        ThresholdLines x = new ThresholdLines(2, 1);
        Check.due("keep -1", x.keep(-1), false);
        Check.due("keep 8", x.keep(8), false);
        Check.due("keep high", x.keep(HIGH), false);
        Check.due("keep low", x.keep(LOW), false);
        Check.due("none used", x.about(6), 0);
        Check.due("keep 0", x.keep(0), true);
        Check.due("keep 7", x.keep(7), true);
        Check.due("two used", x.about(6), 2);
        x.set(2, 1, 1);
        Check.due("the shelf's own stays", x.like(0, 0), 0);
        Check.due("keep 0 anew", x.keep(0), true);
        Check.due("in its place", x.like(0, 0), 1);
        Check.due("the other stays", x.like(7, 0), 0);
        Check.due("still two", x.about(6), 2);
        Check.tape(x, "kept 7");
        x.draw();
        x.set(2, 1, 2);
        Check.tape(x, "kept 7");
        x.draw();
        Check.due("a drawn one is no shelf's", x.mirror(2, 1), 0);
    }

    private static void like() {
        ThresholdLines x = drawn("set 2 1 1 set 1 2 2 set 4 1 2 plain 3 2");
        x.keep(0);
        String[] ways = {"", "turn ", "turn turn ", "turn turn turn ", "flip ", "flip turn ", "flip turn turn ",
            "flip turn turn turn ", "turn flip ", "turn flip turn "};
        for (String way : ways) {
            Check.tape(x, way + "kept 0");
            x.draw();
            Check.due("like by " + way, x.like(0, 1), 1);
            Check.due("the same by " + way, x.like(0, 0), way.isEmpty() ? 1 : 0);
        }
        Check.tape(x, "set 2 1 1 set 1 2 2 set 4 1 1 plain 3 2");
        x.draw();
        Check.due("another", x.like(0, 0), 0);
        Check.due("another by turns", x.like(0, 1), 0);
        Check.tape(x, "set 2 1 1 set 1 2 2 set 4 1 2 plain 3 3");
        x.draw();
        Check.due("another size", x.like(0, 0), 0);
        Check.due("another size by turns", x.like(0, 1), 0);
        Check.due("nothing there", x.like(1, 0), -1);
        Check.due("nothing there", x.like(1, 1), -1);
        Check.due("shelf -1", x.like(-1, 0), -1);
        Check.due("shelf 8", x.like(8, 0), -1);
        Check.due("shelf high", x.like(HIGH, 1), -1);
        Check.due("what 2", x.like(0, 2), -1);
        Check.due("what -1", x.like(0, -1), -1);
        x.keep(2);
        x.pin(2, 1, true);
        Check.due("pins are no part", x.like(2, 0), 1);
    }

    private static void alike() {
        Check.due("plain square", new ThresholdLines(8, 8).alike(), 8);
        Check.due("plain, oblong", new ThresholdLines(8, 7).alike(), 4);
        Check.due("one", drawn("set 2 1 1 set 1 2 2 set 4 1 2 plain 3 2").alike(), 1);
        Check.due("two", drawn("set 2 1 1 plain 2 2").alike(), 2);
        // Turned, the standing one of the top is the lying one of the right side.
        Check.due("by all turns and flips", drawn("set 2 1 1 set 3 2 2 set 2 3 1 set 1 2 2 plain 2 2").alike(), 8);
        Check.due("all standing", drawn("set 2 1 1 set 3 2 1 set 2 3 1 set 1 2 1 plain 2 2").alike(), 4);
        Check.due("by turns alone", drawn("set 2 1 1 set 5 2 2 set 4 5 1 set 1 4 2 plain 3 3").alike(), 4);
        Check.due("by one slanted flip", drawn("set 2 1 1 set 3 2 2 plain 2 2").alike(), 2);
    }

    private static void about() {
        ThresholdLines x = drawn("set 2 1 1 set 4 1 1 set 1 2 2 plain 3 2");
        x.pin(2, 1, true);
        x.pin(3, 2, true);
        x.keep(5);
        x.feed(0, 0, 0, 0, 0);
        int[] due = {3, 2, 7, 2, 1, 2, 1, 20, 24};
        for (int what = 0; what < due.length; what++) {
            Check.due("about " + what, x.about(what), due[what]);
        }
        Check.due("about 9", x.about(9), -1);
        Check.due("about -1", x.about(-1), -1);
        Check.due("about high", x.about(HIGH), -1);
        Check.due("about low", x.about(LOW), -1);
        Check.due("no inner points", new ThresholdLines(1, 1).about(2), 0);
        Check.due("most inner points", new ThresholdLines(8, 8).about(2), 112);
        Check.due("most squares", new ThresholdLines(8, 8).about(8), 256);
    }
}
