/** Promises 15 to 23: the tape and what is read from it, shelves, likeness. */
final class TapeCases {
    private TapeCases() {
    }

    static void all() {
        tape();
        read();
        shelves();
        alike();
        about();
    }

    private static void tape() {
        Doc.says(15, "Twenty bytes come behind the tape,", TapeCases::twentyBytes);
        Doc.says(15, "the highest of a first:", TapeCases::highestFirst);
        Doc.says(15, "how many it has.", TapeCases::howMany);
        Doc.says(15, "NONE, and none come, if there would be more than 200.", TapeCases::fullTape);
        Doc.says(16, "The tape has its first n bytes alone: n.", TapeCases::firstBytes);
        Doc.says(16, "NONE, and nothing is done, if it has not so many, or n is below 0.", TapeCases::notSoMany);
    }

    private static int four(String text) {
        return text.charAt(0) << 24 | text.charAt(1) << 16 | text.charAt(2) << 8 | text.charAt(3);
    }

    private static int feed(ThresholdLines x, String text) {
        return x.feed(four(text.substring(0, 4)), four(text.substring(4, 8)), four(text.substring(8, 12)),
            four(text.substring(12, 16)), four(text.substring(16, 20)));
    }

    private static void twentyBytes() {
        ThresholdLines x = new ThresholdLines(1, 1);
        Check.due("first", feed(x, "beside set 2 1 1 pla"), 20);
        Check.due("second", feed(x, "in 2 1 row 2 plain 1"), 40);
        Check.due("third", feed(x, " 1                  "), 60);
        Check.due("all of them", x.draw(), 4);
        Check.due("in their order", x.mirror(2, 1), 1);
        // Each of the twenty in its place: the first wrong one is told.
        for (int place = 0; place < 20; place++) {
            ThresholdLines y = new ThresholdLines(1, 1);
            String text = " ".repeat(place) + "?" + " ".repeat(19 - place);
            Check.due("twenty", feed(y, text), 20);
            y.draw();
            Check.due("byte " + place, y.fault(1), place);
            feed(y, " ".repeat(20));
            feed(y, text);
            y.draw();
            Check.due("byte " + (20 + place), y.fault(1), 20 + place);
        }
    }

    private static void highestFirst() {
        ThresholdLines x = new ThresholdLines(3, 3);
        x.feed(0x61626364, 0, 0, 0, 0);
        x.end(4);
        Check.due("abcd", x.back(1, 1, 1, 0), 0);
        x.feed(0x64636261, 0, 0, 0, 0);
        x.end(4);
        Check.due("dcba", x.back(1, 1, 1, 0), -1);
        Check.due("its fault", x.fault(1), 0);
        // Bytes from 128 on stay bytes, whatever the sign of the number that they come in.
        x.feed(0x61626364 | 0x80000000, -1, Made.LOW, Made.HIGH, -1);
        x.end(4);
        Check.due("225 first", x.back(1, 1, 1, 0), -1);
        Check.due("no such byte", x.fault(0) * 10 + x.fault(1), 10);
        x.feed(0x61e2e3e4, 0, 0, 0, 0);
        x.end(2);
        Check.due("226 second", x.back(1, 1, 1, 0), -1);
        Check.due("no such byte", x.fault(0) * 10 + x.fault(1), 11);
    }

    private static void howMany() {
        ThresholdLines x = new ThresholdLines(1, 1);
        for (int n = 1; n <= 10; n++) {
            Check.due("feed " + n, x.feed(n, n, n, n, n), 20 * n);
            Check.due("bytes " + n, x.about(7), 20 * n);
        }
        x.end(7);
        Check.due("behind seven", x.feed(0, 0, 0, 0, 0), 27);
    }

    private static void fullTape() {
        for (int has = 0; has <= 200; has++) {
            ThresholdLines x = new ThresholdLines(1, 1);
            Check.tape(x, " ".repeat(has));
            Check.due("has", x.about(7), has);
            int due = has + 20 > 200 ? -1 : has + 20;
            Check.due("feed behind " + has, x.feed(-1, -1, -1, -1, -1), due);
            Check.due("bytes then", x.about(7), due == -1 ? has : due);
            x.draw();
            Check.due("none came, or they come behind", x.fault(1), has);
        }
        ThresholdLines x = new ThresholdLines(1, 1);
        Check.tape(x, " ".repeat(200));
        x.feed(0, 0, 0, 0, 0);
        Check.due("full and read", x.draw(), -1);
        Check.due("empty, room again", x.feed(0, 0, 0, 0, 0), 20);
    }

    private static void firstBytes() {
        for (int n = 0; n <= 20; n++) {
            ThresholdLines x = new ThresholdLines(1, 1);
            feed(x, "plain 1 1           ");
            Check.due("end " + n, x.end(n), n);
            Check.due("bytes", x.about(7), n);
            x.draw();
            Check.due("fault", x.fault(0), n >= 9 ? 0 : 1);
            Check.due("place", x.fault(1), n >= 9 ? -1 : n == 0 || n > 4 ? n : 0);
        }
        ThresholdLines x = new ThresholdLines(1, 1);
        feed(x, "plain 1 1plain 2 2  ");
        Check.due("end 6", x.end(6), 6);
        feed(x, "3 2 7 7 7 7 7 7 7 7 ");
        Check.due("end 9", x.end(9), 9);
        Check.due("end 9 again", x.end(9), 9);
        Check.due("what came behind", x.draw(), 6);
        Check.tape(x, " ".repeat(200));
        Check.due("end 200", x.end(200), 200);
        Check.due("end 0", x.end(0), 0);
        Check.due("end 0 of none", x.end(0), 0);
    }

    private static void notSoMany() {
        for (int has : new int[] {0, 1, 19, 20, 21, 199, 200}) {
            ThresholdLines x = new ThresholdLines(1, 1);
            Check.tape(x, " ".repeat(has));
            for (int n : new int[] {has + 1, has + 2, 201, 256, Made.HIGH, -1, -2, Made.LOW, -Made.HIGH}) {
                Check.due("end " + n + " of " + has, x.end(n), -1);
                Check.due("nothing done", x.about(7), has);
            }
            Check.due("end of all", x.end(has), has);
        }
        // Bytes that were let go don't come again.
        ThresholdLines x = new ThresholdLines(1, 1);
        feed(x, "plain 1 1           ");
        x.end(5);
        Check.due("end 9 of 5", x.end(9), -1);
    }

    private static void read() {
        Doc.says(17, "The tape (empty then)", TapeCases::drawEmpties);
        Doc.says(17, "tells a DRAWING, which is there from then on: how many dots.", TapeCases::drawTells);
        Doc.says(17, "NONE: it has a FAULT, the former one stays.", TapeCases::drawFails);
        Doc.says(18, "The tape (empty then)", TapeCases::backEmpties);
        Doc.says(18, "is a WALK BACK from a POINT of a size: the DRAWING is there from then on: at how many INNER POINTS it"
            + " came by.", TapeCases::backTells);
        Doc.says(18, "NONE: it has a FAULT;", TapeCases::backFails);
        Doc.says(18, "or (the tape stays) no such size, POINT.", TapeCases::backRefused);
        Doc.says(19, "Of the latest tape that was read: 0 its FAULT (0 without), 1 its place (NONE without).",
            TapeCases::latestFault);
        Doc.says(19, "NONE for others,", TapeCases::faultNone);
        Doc.says(19, "and ahead of any.", TapeCases::aheadOfAny);
    }

    private static void drawEmpties() {
        ThresholdLines x = new ThresholdLines(1, 1);
        for (String text : new String[] {"plain 2 2", "plain 9 9", "", "?", " ".repeat(200)}) {
            Check.tape(x, text);
            x.draw();
            Check.due("empty after " + text, x.about(7), 0);
            Check.due("no bytes left", x.end(1), -1);
        }
        Check.tape(x, "plain 2 2");
        x.draw();
        Check.due("a second time there is no text", x.draw(), -1);
        Check.due("but an end at 0", x.fault(0) * 10 + x.fault(1), 10);
    }

    private static void drawTells() {
        ThresholdLines x = Made.ringed(8, 8);
        Check.tape(x, "plain 1 1");
        Check.due("the smallest", x.draw(), 1);
        Check.due("lines", x.lines(), 1);
        Check.due("squares", x.about(8), 4);
        Check.due("changes", x.joined(1), 0);
        Check.tape(x, "plain 8 8");
        Check.due("the largest", x.draw(), 64);
        Check.due("nothing of the former", x.about(3) + x.about(4), 0);
        Check.due("lines", x.lines(), 8);
        Check.tape(x, "row 4 set 2 1 1 plain 2 1");
        Check.due("a row", x.draw(), 8);
        Check.due("lines of it", x.lines(), 5);
        Made.same("mirrors of it", Made.seen(x), "8x1:1010101");
    }

    private static void drawFails() {
        ThresholdLines x = Made.ringed(2, 2);
        x.pin(2, 1, true);
        x.keep(1);
        int lines = x.lines();
        String before = Made.seen(x);
        for (String text : new String[] {"", "plain 0 1", "plain 1 1 1", "set 1 1 1 plain 3 3", "turn ".repeat(9), "kept 0"}) {
            Check.tape(x, text);
            Check.due("draw of " + text, x.draw(), -1);
            Made.same("the former", Made.seen(x), before);
            Check.due("its pins", x.about(5), 1);
            Check.due("its lines", x.lines(), lines);
            Check.due("the shelf's", x.like(1, 0), 1);
        }
    }

    private static void backEmpties() {
        ThresholdLines x = new ThresholdLines(1, 1);
        for (String steps : new String[] {"abcd", "abc", "", "x", "abcda", "d"}) {
            Check.tape(x, steps);
            x.back(1, 1, 1, 0);
            Check.due("empty after " + steps, x.about(7), 0);
        }
    }

    private static void backTells() {
        ThresholdLines x = Made.ringed(8, 8);
        Check.tape(x, "abcd");
        Check.due("the smallest, by none", x.back(1, 1, 1, 0), 0);
        Check.due("dots", x.about(0) * 10 + x.about(1), 11);
        Check.due("lines", x.lines(), 1);
        Check.tape(x, "abcd");
        Check.due("in a corner of the largest", x.back(8, 8, 1, 0), 2);
        Check.due("wide, high", x.about(0) * 10 + x.about(1), 88);
        Check.due("mirrors", x.about(3) * 10 + x.about(4), 11);
        Check.tape(x, "dabccbad");
        Check.due("twice by one point", x.back(2, 1, 2, 1), 1);
        Check.due("wide, high", x.about(0) * 10 + x.about(1), 21);
        Check.due("lines then", x.lines(), 1);
        Check.due("changes then", x.joined(1), 0);
    }

    private static void backFails() {
        ThresholdLines x = Made.ringed(2, 2);
        x.pin(2, 1, true);
        int lines = x.lines();
        String before = Made.seen(x);
        for (String steps : new String[] {"", "x", "d", "ac", "abc"}) {
            Check.tape(x, steps);
            Check.due("back of " + steps, x.back(8, 8, 1, 0), -1);
            Check.due("a fault", x.fault(0) > 0 && x.fault(1) >= 0, true);
            Made.same("the former", Made.seen(x), before);
            Check.due("its pins", x.about(5), 1);
            Check.due("its lines", x.lines(), lines);
        }
    }

    private static void backRefused() {
        ThresholdLines x = Made.ringed(3, 2);
        String before = Made.seen(x);
        Check.tape(x, "plain 9 9");
        x.draw();
        Check.tape(x, "abcd");
        int[][] wrong = {{0, 1, 1, 0}, {1, 0, 1, 0}, {9, 1, 1, 0}, {1, 9, 1, 0}, {-1, 1, 1, 0}, {1, -1, 1, 0},
            {1, 1, 0, 0}, {1, 1, 1, 1}, {1, 1, 2, 0}, {1, 1, 0, 2}, {1, 1, 2, 2}, {1, 1, 3, 0}, {1, 1, 0, 3}, {1, 1, -1, 0},
            {1, 1, 0, -1}, {1, 1, 2, 3}, {1, 1, 3, 2}, {8, 8, 17, 0}, {8, 8, 0, 17}, {8, 8, 17, 2}, {3, 2, 4, 5}};
        for (int[] w : wrong) {
            Check.due("back of " + w[0] + " " + w[1] + " " + w[2] + " " + w[3], x.back(w[0], w[1], w[2], w[3]), -1);
        }
        for (int far : Made.FAR) {
            Check.due("back of " + far, x.back(far, 1, 1, 0) + x.back(1, far, 1, 0) + x.back(1, 1, far, 0)
                + x.back(1, 1, 1, far) + x.back(far, far, far, far) + x.back(8, 8, far, 1) + x.back(8, 8, 0, far), -7);
        }
        Check.due("the tape stays", x.about(7), 4);
        Check.due("the latest fault is the text's", x.fault(0) * 10 + x.fault(1), 26);
        Made.same("the former", Made.seen(x), before);
        Check.due("and the tape is whole", x.back(1, 1, 1, 0), 0);
    }

    private static void latestFault() {
        ThresholdLines x = new ThresholdLines(1, 1);
        String[] texts = {"plain 1 1", "", "plain 9 9", "turn ".repeat(9), "set 1 1 1 plain 1 1", "plain 1 1"};
        int[][] due = {{0, -1}, {1, 0}, {2, 6}, {3, 40}, {4, 0}, {0, -1}};
        for (int n = 0; n < texts.length; n++) {
            Check.tape(x, texts[n]);
            x.draw();
            Check.due("fault of " + texts[n], x.fault(0), due[n][0]);
            Check.due("place of " + texts[n], x.fault(1), due[n][1]);
        }
        String[] walks = {"abcd", "x", "d", "ac", "abc", "", "abcd"};
        int[][] then = {{0, -1}, {1, 0}, {2, 0}, {3, 1}, {4, 3}, {4, 0}, {0, -1}};
        for (int n = 0; n < walks.length; n++) {
            Check.tape(x, walks[n]);
            x.back(1, 1, 1, 0);
            Check.due("fault of " + walks[n], x.fault(0), then[n][0]);
            Check.due("place of " + walks[n], x.fault(1), then[n][1]);
        }
        Check.tape(x, "abc");
        x.back(1, 1, 1, 0);
        Check.tape(x, "plain");
        x.end(2);
        x.set(1, 1, 1);
        x.join();
        Check.due("other calls read no tape", x.fault(0) * 10 + x.fault(1), 43);
    }

    private static void faultNone() {
        ThresholdLines x = new ThresholdLines(1, 1);
        for (String text : new String[] {"plain 1 1", "plain 9 9"}) {
            Check.tape(x, text);
            x.draw();
            Check.due("what 2", x.fault(2), -1);
            for (int far : Made.FAR) {
                Check.due("what " + far, x.fault(far), -1);
            }
        }
    }

    private static void aheadOfAny() {
        ThresholdLines x = new ThresholdLines(1, 1);
        Check.due("new 0", x.fault(0), -1);
        Check.due("new 1", x.fault(1), -1);
        Check.tape(x, "plain 9 9");
        Check.due("fed, not read", x.fault(0) + x.fault(1), -2);
        x.back(0, 0, 0, 0);
        x.back(1, 1, 1, 1);
        Check.due("refused, not read", x.fault(0) + x.fault(1), -2);
        x.draw();
        Check.due("read", x.fault(0), 2);
        ThresholdLines y = new ThresholdLines(1, 1);
        y.draw();
        Check.due("an empty one is read too", y.fault(0) * 10 + y.fault(1), 10);
        ThresholdLines z = new ThresholdLines(1, 1);
        z.back(1, 1, 1, 0);
        Check.due("by back too", z.fault(0) * 10 + z.fault(1), 40);
    }

    private static void shelves() {
        Doc.says(20, "The DRAWING is kept on a SHELF (0 .. 7),", TapeCases::keptOnEach);
        Doc.says(20, "in place of what was there: true.", TapeCases::inPlace);
        Doc.says(20, "False for others.", TapeCases::keepFalse);
        Doc.says(21, "Whether a SHELF's DRAWING is the one that is there (what 0),", TapeCases::likeSame);
        Doc.says(21, "comes to be so by turns and flips (1; 1, 0).", TapeCases::likeTurned);
        Doc.says(21, "NONE: nothing is on it, others.", TapeCases::likeNone);
    }

    private static void keptOnEach() {
        ThresholdLines x = new ThresholdLines(8, 8);
        for (int shelf = 0; shelf < 8; shelf++) {
            x.set(2, 1, shelf % 3);
            x.set(4, 1, shelf / 3);
            Check.due("keep " + shelf, x.keep(shelf), true);
            Check.due("shelves", x.about(6), shelf + 1);
        }
        for (int shelf = 0; shelf < 8; shelf++) {
            x.set(2, 1, shelf % 3);
            x.set(4, 1, shelf / 3);
            for (int other = 0; other < 8; other++) {
                Check.due("like " + other, x.like(other, 0), other == shelf ? 1 : 0);
            }
        }
    }

    private static void inPlace() {
        ThresholdLines x = Made.ringed(8, 8);
        Check.due("a large one", x.keep(4), true);
        Check.tape(x, "set 2 1 1 plain 2 1");
        x.draw();
        Check.due("a small one", x.keep(4), true);
        Check.due("one shelf", x.about(6), 1);
        Check.due("that is there", x.like(4, 0), 1);
        Check.tape(x, "kept 4");
        Check.due("of its size", x.draw(), 2);
        Made.same("with its mirrors", Made.seen(x), "2x1:1");
        x.set(2, 1, 2);
        Check.due("the shelf's own", x.like(4, 0), 0);
        Check.tape(x, "kept 4");
        x.draw();
        Made.same("as it was kept", Made.seen(x), "2x1:1");
    }

    private static void keepFalse() {
        ThresholdLines x = new ThresholdLines(2, 1);
        x.keep(0);
        x.keep(7);
        x.set(2, 1, 1);
        Check.due("keep 8", x.keep(8), false);
        for (int far : Made.FAR) {
            Check.due("keep " + far, x.keep(far), false);
        }
        Check.due("shelves", x.about(6), 2);
        Check.due("not on 0", x.like(0, 0), 0);
        Check.due("not on 7", x.like(7, 0), 0);
    }

    private static void likeSame() {
        ThresholdLines x = Made.ringed(2, 2);
        x.keep(0);
        x.pin(2, 1, true);
        Check.due("the same, pinned", x.like(0, 0), 1);
        for (int[] p : Made.innerPoints(x)) {
            int was = x.mirror(p[0], p[1]);
            x.set(p[0], p[1], 0);
            Check.due("one other", x.like(0, 0), 0);
            x.set(p[0], p[1], 3 - was);
            Check.due("one other still", x.like(0, 0), 0);
            x.set(p[0], p[1], was);
            Check.due("the same again", x.like(0, 0), 1);
        }
        for (String text : new String[] {"plain 2 3", "plain 3 2"}) {
            ThresholdLines y = new ThresholdLines(2, 2);
            y.keep(0);
            Check.tape(y, text);
            y.draw();
            Check.due("other sizes", y.like(0, 0), 0);
        }
        ThresholdLines z = new ThresholdLines(2, 3);
        z.keep(0);
        Check.tape(z, "turn kept 0");
        z.draw();
        Check.due("turned, sizes differ", z.like(0, 0), 0);
    }

    private static void likeTurned() {
        String base = "set 2 1 1 set 1 2 2 set 4 1 2 plain 3 2";
        String[] ways = {"", "turn ", "turn turn ", "turn turn turn ", "flip ", "flip turn ", "flip turn turn ",
            "flip turn turn turn "};
        for (String way : ways) {
            ThresholdLines x = Made.drawn(base);
            x.keep(6);
            Check.tape(x, way + "kept 6");
            x.draw();
            Check.due("by " + way, x.like(6, 1), 1);
            Check.due("the same by " + way, x.like(6, 0), way.isEmpty() ? 1 : 0);
            int[] p = Made.innerPoints(x).get(0);
            x.set(p[0], p[1], (x.mirror(p[0], p[1]) + 1) % 3);
            Check.due("another by " + way, x.like(6, 1), 0);
        }
        // Turned without its mirrors turning is not alike.
        ThresholdLines x = Made.drawn("set 2 1 1 plain 2 1");
        x.keep(0);
        Check.tape(x, "set 1 2 1 plain 1 2");
        x.draw();
        Check.due("standing must lie", x.like(0, 1), 0);
        Check.tape(x, "set 1 2 2 plain 1 2");
        x.draw();
        Check.due("lying", x.like(0, 1), 1);
        Check.tape(x, "plain 2 2");
        x.draw();
        Check.due("another size", x.like(0, 1), 0);
        Check.due("the smallest", smallestAlike(), 1);
    }

    private static int smallestAlike() {
        ThresholdLines x = new ThresholdLines(1, 1);
        x.keep(0);
        return x.like(0, 1);
    }

    private static void likeNone() {
        ThresholdLines x = new ThresholdLines(2, 2);
        x.keep(3);
        for (int shelf = -1; shelf <= 8; shelf++) {
            Check.due("like " + shelf + " 0", x.like(shelf, 0), shelf == 3 ? 1 : -1);
            Check.due("like " + shelf + " 1", x.like(shelf, 1), shelf == 3 ? 1 : -1);
            Check.due("what 2", x.like(shelf, 2), -1);
            Check.due("what -1", x.like(shelf, -1), -1);
        }
        for (int far : Made.FAR) {
            Check.due("shelf " + far, x.like(far, 0) + x.like(far, 1) + x.like(far, far), -3);
            Check.due("what " + far, x.like(3, far), -1);
        }
    }

    private static void alike() {
        Doc.says(22, "By how many of the eight (turned 0 .. 3 times, then flipped or not) the DRAWING comes to be itself.",
            TapeCases::ways);
    }

    private static void ways() {
        Check.due("the smallest: all eight", new ThresholdLines(1, 1).alike(), 8);
        Check.due("the largest: all eight", new ThresholdLines(8, 8).alike(), 8);
        Check.due("oblong: four at most", new ThresholdLines(8, 7).alike(), 4);
        Check.due("oblong: four at most", new ThresholdLines(1, 8).alike(), 4);
        Check.due("one, itself", Made.drawn("set 2 1 1 set 1 2 2 set 4 1 2 plain 3 2").alike(), 1);
        Check.due("flipped", Made.drawn("set 2 1 1 plain 2 2").alike(), 2);
        Check.due("upside down", Made.drawn("set 1 2 1 plain 2 2").alike(), 2);
        Check.due("turned twice", Made.drawn("set 2 1 1 set 4 3 1 plain 3 2").alike(), 2);
        Check.due("across", Made.drawn("set 2 1 1 set 3 2 2 plain 2 2").alike(), 2);
        Check.due("turned alone", Made.drawn("set 2 1 1 set 5 2 2 set 4 5 1 set 1 4 2 plain 3 3").alike(), 4);
        Check.due("mirrors turn as well", Made.drawn("set 2 1 1 set 3 2 1 set 2 3 1 set 1 2 1 plain 2 2").alike(), 4);
        Check.due("round each dot", Made.ringed(8, 8).alike(), 8);
        ThresholdLines x = Made.ringed(8, 8);
        String before = Made.seen(x);
        x.keep(0);
        x.alike();
        x.like(0, 1);
        Made.same("asking changes nothing", Made.seen(x), before);
    }

    private static void about() {
        String[] words = {"0 WIDE,", "1 HIGH,", "2 INNER POINTS,", "3 standing MIRRORS,", "4 lying ones,", "5 PINNED ones,",
            "6 SHELVES with something,", "7 bytes of the tape,", "8 SQUARES."};
        // Of the smallest, of one that has all it can, and of one with something of each.
        int[] least = {1, 1, 0, 0, 0, 0, 0, 0, 4};
        int[] most = {8, 8, 112, 56, 56, 112, 8, 200, 256};
        int[] some = {3, 2, 7, 2, 1, 3, 1, 5, 24};
        for (int n = 0; n < words.length; n++) {
            int what = n;
            Doc.says(23, words[n], () -> {
                Check.due("least of " + what, new ThresholdLines(1, 1).about(what), least[what]);
                Check.due("most of " + what, fullest().about(what), most[what]);
                Check.due("some of " + what, middling().about(what), some[what]);
            });
        }
        Doc.says(23, "NONE for others.", () -> {
            for (ThresholdLines x : new ThresholdLines[] {new ThresholdLines(1, 1), fullest()}) {
                Check.due("what 9", x.about(9), -1);
                for (int far : Made.FAR) {
                    Check.due("what " + far, x.about(far), -1);
                }
            }
        });
    }

    private static ThresholdLines fullest() {
        ThresholdLines x = Made.ringed(8, 8);
        for (int[] p : Made.innerPoints(x)) {
            x.pin(p[0], p[1], true);
        }
        for (int shelf = 0; shelf < 8; shelf++) {
            x.keep(shelf);
        }
        for (int n = 0; n < 11; n++) {
            x.feed(n, n, n, n, n);
        }
        return x;
    }

    private static ThresholdLines middling() {
        ThresholdLines x = Made.drawn("set 2 1 1 set 4 1 1 set 1 2 2 plain 3 2");
        x.pin(2, 1, true);
        x.pin(3, 2, true);
        x.pin(4, 3, true);
        x.keep(5);
        Check.tape(x, "12345");
        return x;
    }
}
