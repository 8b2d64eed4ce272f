/** "Terms", III: a text and its faults. */
final class TextCases {
    private static final String[] OPENING = {"set 2 1 1 ", "turn ", "flip ", "beside ", "above ", "over ", "row 1 "};
    /** Texts behind which an E is due. */
    private static final String[] BEFORE_E = {"", "set 1 2 1 ", "turn ", "flip ", "beside ", "beside plain 1 1 ", "above ",
        "above plain 1 1 ", "over ", "over plain 1 1 ", "row 1 ", "turn set 1 2 1 "};
    /** Texts behind which a number is due. */
    private static final String[] BEFORE_NUMBER = {"plain ", "plain 1 ", "set ", "set 1 ", "set 1 2 ", "row ", "kept "};
    /** Texts behind which none is due. */
    private static final String[] WHOLE = {"plain 1 1 ", "kept 3 ", "set 2 1 1 plain 2 1 ", "turn plain 1 1 ",
        "over plain 1 1 plain 1 1 "};

    private TextCases() {
    }

    static void all() {
        tokens();
        expressions();
        faults();
    }

    /** What a text answers on an object that has a drawing of 3 by 2 on shelf 3, and what it leaves. */
    private static void due(String text, int kind, int place) {
        ThresholdLines x = Made.ringed(3, 2);
        x.keep(3);
        x.pin(2, 3, true);
        String before = Made.seen(x);
        Check.tape(x, text);
        int answer = x.draw();
        Check.due("fault of " + text, x.fault(0), kind);
        Check.due("place in " + text, x.fault(1), place);
        Check.due("draw of " + text, answer, kind == 0 ? x.about(0) * x.about(1) : -1);
        if (kind != 0) {
            Made.same("the former stays after " + text, Made.seen(x), before);
            Check.due("its pin stays after " + text, x.about(5), 1);
        }
    }

    private static void drawn(String text) {
        due(text, 0, -1);
    }

    private static void tokens() {
        Doc.says(0, "A TEXT (up to 200 bytes) tells a DRAWING.", TextCases::twoHundredBytes);
        Doc.says(0, "TOKENS, blanks (32, 10) aside:", TextCases::blanks);
        Doc.says(0, "letters a .. z one behind the other,", TextCases::letters);
        Doc.says(0, "digits one behind the other (NUMBERS).", TextCases::digits);
    }

    private static void twoHundredBytes() {
        drawn(" ".repeat(191) + "plain 7 8");
        drawn("plain 7 8" + "\n".repeat(191));
        drawn("plain 7" + " ".repeat(192) + "8");
        drawn("plain 7 " + "0".repeat(191) + "8");
        due("plain 7 " + "0".repeat(192), 2, 8);
        due(" ".repeat(200), 1, 200);
        due("plain 7 " + " ".repeat(192), 1, 200);
        due(" ".repeat(190) + "plain 7 8x", 1, 199);
        due("z".repeat(200), 1, 0);
        due("9".repeat(200), 1, 0);
        ThresholdLines x = Made.drawn("plain 1 1" + " ".repeat(190));
        Check.due("199 bytes", x.about(0), 1);
    }

    private static void blanks() {
        for (int sign = 0; sign < 256; sign++) {
            char c = (char) sign;
            boolean blank = sign == 32 || sign == 10;
            if (Character.isDigit(c) && sign < 128) {
                continue;
            }
            due("plain 1" + c + "1", blank ? 0 : 1, blank ? -1 : 7);
            due(c + "plain 1 1", blank ? 0 : 1, blank ? -1 : 0);
            due("plain 1 1" + c, blank ? 0 : 1, blank ? -1 : 9);
        }
        drawn("plain1\n1");
        drawn("\n \n plain \n\n 1  1 \n");
    }

    private static void letters() {
        due("turnplain 1 1", 1, 0);
        due("turn plain1 1turn", 1, 13);
        due("turna plain 1 1", 1, 0);
        due("turnz plain 1 1", 1, 0);
        due("aturn plain 1 1", 1, 0);
        due("zplain 1 1", 1, 0);
        due("tur n plain 1 1", 1, 0);
        due("turn\nn plain 1 1", 1, 5);
        due("turn` plain 1 1", 1, 4);
        due("turn{ plain 1 1", 1, 4);
        due("`turn plain 1 1", 1, 0);
        due("{turn plain 1 1", 1, 0);
        for (String word : new String[] {"Plain", "PLAIN", "plaiN", "plaim", "plai", "plainn", "qlain", "keep", "p"}) {
            due(word + " 1 1", 1, 0);
        }
    }

    private static void digits() {
        drawn("plain1 1");
        drawn("row2plain1 1");
        drawn("set2 1 1plain2 1");
        due("plain11 1", 2, 5);
        due("plain 1 11", 2, 8);
        due("plain 1/1", 1, 7);
        due("plain 1:1", 1, 7);
        due("plain /1 1", 1, 6);
        due("plain :1 1", 1, 6);
        due("plain -1 1", 1, 6);
        due("plain +1 1", 1, 6);
        due("plain 1.0 1", 1, 7);
        due("plain 1,1", 1, 7);
        due("plain 1 1plain", 1, 9);
        drawn("plain 08 008");
        due("plain 08 009", 2, 9);
        due("plain 000 1", 2, 6);
    }

    private static void expressions() {
        Doc.says(0, "E: plain NUMBER NUMBER (WIDE, HIGH; no MIRRORS),", TextCases::plain);
        Doc.says(0, "or set NUMBER NUMBER NUMBER E (the MIRROR 0 .. 2 at INNER POINT i, j),", TextCases::set);
        Doc.says(0, "or turn E (a quarter to the right: what was at (i, j) is at (2 HIGH - j, i), standing lies, lying"
            + " stands),", TextCases::turn);
        Doc.says(0, "or flip E ((2 WIDE - i, j)),", TextCases::flip);
        Doc.says(0, "or beside E E (the second one to the right, of the same HIGH; POINTS between have no MIRRORS),",
            TextCases::beside);
        Doc.says(0, "or above E E (the second one below, of the same WIDE),", TextCases::above);
        Doc.says(0, "or over E E (of the same size: the second one's MIRRORS, where it has none the first one's),",
            TextCases::over);
        Doc.says(0, "or row NUMBER E (so many of it, 1 .. 8, beside one another),", TextCases::row);
        Doc.says(0, "or kept NUMBER (that on a SHELF, 0 .. 7).", TextCases::kept);
        Doc.says(0, "The text is one E.", TextCases::oneExpression);
    }

    private static void seen(String text, String due) {
        Made.same(text, Made.seen(Made.drawn(text)), due);
    }

    private static void plain() {
        ThresholdLines x = Made.ringed(8, 8);
        for (int size = 0; size < 64; size++) {
            int wide = 1 + size % 8;
            int high = 1 + size / 8;
            Check.tape(x, "plain " + wide + " " + high);
            Check.due("dots", x.draw(), wide * high);
            Check.due("wide", x.about(0), wide);
            Check.due("high", x.about(1), high);
            Check.due("no mirrors", x.about(3) + x.about(4), 0);
        }
    }

    private static void set() {
        seen("set 2 1 0 plain 2 1", "2x1:0");
        seen("set 2 1 1 plain 2 1", "2x1:1");
        seen("set 2 1 2 plain 2 1", "2x1:2");
        seen("set 2 1 0 set 2 1 2 plain 2 1", "2x1:0");
        seen("set 2 1 2 set 2 1 0 plain 2 1", "2x1:2");
        seen("set 3 2 1 set 1 2 2 plain 2 2", "2x2:0210");
        due("set 2 1 3 plain 2 1", 2, 8);
        ThresholdLines x = Made.drawn("set 15 14 1 set 14 15 2 set 1 2 2 set 2 1 1 plain 8 8");
        Check.due("the outmost points", x.mirror(15, 14) * 1000 + x.mirror(14, 15) * 100 + x.mirror(1, 2) * 10 + x.mirror(2, 1), 1221);
    }

    private static void turn() {
        for (int[] size : new int[][] {{1, 8}, {8, 1}, {3, 2}, {2, 2}, {8, 8}}) {
            ThresholdLines plain = new ThresholdLines(size[0], size[1]);
            for (int[] p : Made.innerPoints(plain)) {
                for (int mirror = 1; mirror <= 2; mirror++) {
                    ThresholdLines x = Made.drawn("turn set " + p[0] + " " + p[1] + " " + mirror + " plain " + size[0] + " " + size[1]);
                    Check.due("wide", x.about(0), size[1]);
                    Check.due("high", x.about(1), size[0]);
                    Check.due("what was at " + p[0] + " " + p[1], x.mirror(2 * size[1] - p[1], p[0]), 3 - mirror);
                    Check.due("that alone", x.about(3) + x.about(4), 1);
                }
            }
        }
        seen("turn turn turn turn set 1 2 2 set 2 3 1 plain 3 2", Made.seen(Made.drawn("set 1 2 2 set 2 3 1 plain 3 2")));
        drawn("turn plain 1 1");
    }

    private static void flip() {
        for (int[] size : new int[][] {{1, 8}, {8, 1}, {3, 2}, {2, 2}, {8, 8}}) {
            ThresholdLines plain = new ThresholdLines(size[0], size[1]);
            for (int[] p : Made.innerPoints(plain)) {
                for (int mirror = 1; mirror <= 2; mirror++) {
                    ThresholdLines x = Made.drawn("flip set " + p[0] + " " + p[1] + " " + mirror + " plain " + size[0] + " " + size[1]);
                    Check.due("wide", x.about(0), size[0]);
                    Check.due("high", x.about(1), size[1]);
                    Check.due("what was at " + p[0] + " " + p[1], x.mirror(2 * size[0] - p[0], p[1]), mirror);
                    Check.due("that alone", x.about(3) + x.about(4), 1);
                }
            }
        }
        drawn("flip plain 1 1");
    }

    private static void beside() {
        seen("beside set 2 1 1 plain 2 1 set 2 1 2 plain 2 1", "4x1:102");
        seen("beside plain 1 2 set 1 2 2 plain 1 2", "2x2:0020");
        seen("beside set 1 2 1 plain 1 2 plain 1 2", "2x2:0100");
        seen("beside set 2 1 1 plain 3 1 plain 1 1", "4x1:100");
        for (int wide = 1; wide <= 8; wide++) {
            for (int other = 1; other <= 8; other++) {
                String text = "beside plain " + wide + " 2 plain " + other + " 2";
                due(text, wide + other <= 8 ? 0 : 4, wide + other <= 8 ? -1 : 0);
            }
        }
        due("beside plain 1 2 plain 1 1", 4, 0);
        due("beside plain 1 7 plain 1 8", 4, 0);
    }

    private static void above() {
        seen("above set 1 2 2 plain 1 2 set 1 2 1 plain 1 2", "1x4:201");
        seen("above set 2 1 1 plain 2 1 plain 2 1", "2x2:1000");
        seen("above plain 2 1 set 2 1 2 plain 2 1", "2x2:0002");
        seen("above set 1 2 1 plain 1 3 plain 1 1", "1x4:100");
        for (int high = 1; high <= 8; high++) {
            for (int other = 1; other <= 8; other++) {
                String text = "above plain 2 " + high + " plain 2 " + other;
                due(text, high + other <= 8 ? 0 : 4, high + other <= 8 ? -1 : 0);
            }
        }
        due("above plain 2 1 plain 1 1", 4, 0);
        due("above plain 7 1 plain 8 1", 4, 0);
    }

    private static void over() {
        for (int first = 0; first <= 2; first++) {
            for (int second = 0; second <= 2; second++) {
                seen("over set 2 1 " + first + " plain 2 1 set 2 1 " + second + " plain 2 1",
                    "2x1:" + (second == 0 ? first : second));
            }
        }
        seen("over set 2 1 1 set 1 2 1 plain 2 2 set 1 2 2 set 3 2 1 plain 2 2", "2x2:1210");
        drawn("over plain 8 8 plain 8 8");
        drawn("over plain 1 1 plain 1 1");
        due("over plain 8 8 plain 8 7", 4, 0);
        due("over plain 7 8 plain 8 8", 4, 0);
        due("over plain 1 2 plain 2 1", 4, 0);
    }

    private static void row() {
        for (int many = 0; many <= 10; many++) {
            for (int wide = 1; wide <= 8; wide++) {
                int kind = many < 1 || many > 8 ? 2 : many * wide > 8 ? 4 : 0;
                due("row " + many + " plain " + wide + " 2", kind, kind == 2 ? 4 : kind == 4 ? 0 : -1);
            }
        }
        seen("row 1 set 2 1 2 plain 2 1", "2x1:2");
        seen("row 4 set 2 1 2 plain 2 1", "8x1:2020202");
        seen("row 8 plain 1 1", "8x1:0000000");
        seen("row 2 row 2 set 2 1 1 plain 2 1", "8x1:1010101");
        seen("row 8 set 1 2 1 plain 1 2", "8x2:" + "0000000" + "11111111" + "0000000");
    }

    private static void kept() {
        ThresholdLines x = new ThresholdLines(1, 1);
        for (int shelf = 0; shelf < 8; shelf++) {
            Check.tape(x, "plain " + (shelf + 1) + " 2");
            x.draw();
            x.keep(shelf);
        }
        for (int shelf = 0; shelf < 8; shelf++) {
            Check.tape(x, "kept " + shelf);
            Check.due("kept " + shelf, x.draw(), 2 * (shelf + 1));
            Check.due("its wide", x.about(0), shelf + 1);
        }
        for (String none : new String[] {"8", "9", "10", "255", "256", "4294967296"}) {
            Check.tape(x, "kept " + none);
            Check.due("kept " + none, x.draw(), -1);
            Check.due("its fault", x.fault(0), 2);
            Check.due("its place", x.fault(1), 5);
        }
        Check.tape(x, "beside kept 1 kept 3");
        Check.due("two of them", x.draw(), 12);
    }

    private static void oneExpression() {
        due("", 1, 0);
        for (String text : WHOLE) {
            drawn(text);
            drawn(text.trim());
            due(text + "plain 1 1", 1, text.length());
            due(text + "1", 1, text.length());
            due(text + "x", 1, text.length());
            due(text + "?", 1, text.length());
        }
    }

    private static void faults() {
        Doc.says(0, "FAULTS, the first as it is come to,", TextCases::firstFault);
        Doc.says(0, "of one TOKEN the least:", TextCases::leastFault);
        Doc.says(0, "1 a TOKEN that can't stand there,", TextCases::wrongTokens);
        Doc.says(0, "or is none", TextCases::noTokens);
        Doc.says(0, "(at it;", TextCases::wrongTokenPlaces);
        Doc.says(0, "of the end at the length);", TextCases::endOfText);
        Doc.says(0, "2 a NUMBER that isn't one of those told", TextCases::wrongNumbers);
        Doc.says(0, "(WIDE, HIGH 1 .. 8;", TextCases::wrongSizes);
        Doc.says(0, "i, j 0 .. 16;", TextCases::wrongPoints);
        Doc.says(0, "a SHELF on which nothing is);", TextCases::emptyShelves);
        Doc.says(0, "3 the 9th of set, turn, flip, beside, above, over, row that are open around one another (at it);",
            TextCases::ninthOpen);
        Doc.says(0, "4 as an E is read to its end:", TextCases::readToItsEnd);
        Doc.says(0, "it would be above 8 WIDE or HIGH,", TextCases::tooLarge);
        Doc.says(0, "sizes differ,", TextCases::sizesDiffer);
        Doc.says(0, "or there is no such INNER POINT", TextCases::noInnerPoint);
        Doc.says(0, "(at its word).", TextCases::atItsWord);
    }

    private static void firstFault() {
        due("plain 9 x", 2, 6);
        due("plain x 9", 1, 6);
        due("plain 0 9", 2, 6);
        due("set 17 x 9 plain 9 9", 2, 4);
        due("set 1 17 9 plain 9 9", 2, 6);
        due("set 1 1 3 plain 9 9", 2, 8);
        due("set 1 1 1 plain 9 9", 2, 16);
        due("row 9 x", 2, 4);
        due("kept 2 x", 2, 5);
        due("set 1 1 1 plain 1 1 x", 4, 0);
        due("beside plain 1 1 plain 1 2 ?", 4, 0);
        due("beside set 1 1 1 plain 2 2 plain 9 1", 4, 7);
        due("over beside plain 8 1 plain 8 1 kept 2", 4, 5);
        due("turn ".repeat(8) + "turn x", 3, 40);
        due("turn ".repeat(7) + "x turn turn", 1, 35);
        due("over plain 9 1 " + "turn ".repeat(9), 2, 11);
        due("over plain 1 1 " + "turn ".repeat(9), 3, 50);
    }

    private static void leastFault() {
        // A number where a word is due is no wrong number; a word where a number is due opens nothing.
        due("turn 99", 1, 5);
        due("99", 1, 0);
        due("plain 1 1 99", 1, 10);
        due("turn ".repeat(7) + "row set", 1, 39);
        due("turn ".repeat(8) + "sets", 1, 40);
        due("turn ".repeat(8) + "9", 1, 40);
        // The last token of an E that would not fit either.
        due("beside plain 1 1 plain 1 9", 2, 25);
        due("set 1 1 1 kept 2", 2, 15);
        due("row 8 plain 2 0", 2, 14);
        due("row 8 plain 2 x", 1, 14);
    }

    private static void wrongTokens() {
        for (String before : BEFORE_E) {
            for (String wrong : new String[] {"1", "16", "0", "plane", "squares", "e", "number"}) {
                due(before + wrong, 1, before.length());
            }
        }
        for (String before : BEFORE_NUMBER) {
            for (String wrong : new String[] {"plain", "set", "turn", "kept", "x"}) {
                due(before + wrong, 1, before.length());
            }
        }
        due("plain 2 1 set 2 1 1", 1, 10);
        due("turn 1 plain 1 1", 1, 5);
        due("kept 3 3", 1, 7);
        due("over plain 1 1 1", 1, 15);
    }

    private static void noTokens() {
        for (int sign = 0; sign < 256; sign++) {
            boolean blank = sign == 32 || sign == 10;
            boolean token = sign >= 'a' && sign <= 'z' || sign >= '0' && sign <= '9';
            if (blank || token) {
                continue;
            }
            for (String before : BEFORE_E) {
                due(before + (char) sign + "plain 1 1", 1, before.length());
            }
            for (String before : BEFORE_NUMBER) {
                due(before + (char) sign + "1", 1, before.length());
            }
            for (String before : WHOLE) {
                due(before + (char) sign, 1, before.length());
            }
            due("plain" + (char) sign + " 1 1", 1, 5);
        }
    }

    private static void wrongTokenPlaces() {
        for (int blanks = 0; blanks < 30; blanks++) {
            due(" ".repeat(blanks) + "word", 1, blanks);
            due("plain 1" + "\n".repeat(blanks + 1) + "word 1", 1, 8 + blanks);
            due("plain 1 1" + " ".repeat(blanks) + "?", 1, 9 + blanks);
        }
    }

    private static void endOfText() {
        for (int blanks = 0; blanks < 3; blanks++) {
            String behind = " ".repeat(blanks);
            for (String before : BEFORE_E) {
                due(before + behind, 1, before.length() + blanks);
            }
            for (String before : BEFORE_NUMBER) {
                due(before.trim() + behind, 1, before.trim().length() + blanks);
            }
        }
    }

    private static void wrongNumbers() {
        String[] far = {"99", "100", "101", "255", "256", "257", "4294967295", "4294967296", "4294967297", "2147483647",
            "2147483648", "18446744073709551616", "18446744073709551617", "340282366920938463463374607431768211457"};
        for (String before : BEFORE_NUMBER) {
            for (String number : far) {
                due(before + number + " 1 1", 2, before.length());
            }
        }
        due("row 0 plain 1 1", 2, 4);
        drawn("row 1 plain 1 1");
        drawn("row 8 plain 1 1");
        due("row 9 plain 1 1", 2, 4);
        drawn("set 2 1 0 plain 2 1");
        drawn("set 2 1 2 plain 2 1");
        due("set 2 1 3 plain 2 1", 2, 8);
    }

    private static void wrongSizes() {
        for (int number = 0; number <= 20; number++) {
            boolean is = number >= 1 && number <= 8;
            due("plain " + number + " 1", is ? 0 : 2, is ? -1 : 6);
            due("plain 1 " + number, is ? 0 : 2, is ? -1 : 8);
        }
    }

    private static void wrongPoints() {
        for (int number = 0; number <= 20; number++) {
            boolean told = number <= 16;
            // On a drawing of 8 by 8 with the other one 2, the odd ones of 1 .. 15 are inner points.
            int kind = !told ? 2 : number % 2 == 1 ? 0 : 4;
            due("set " + number + " 2 1 plain 8 8", kind, kind == 2 ? 4 : kind == 4 ? 0 : -1);
            due("set 2 " + number + " 1 plain 8 8", kind, kind == 2 ? 6 : kind == 4 ? 0 : -1);
        }
    }

    private static void emptyShelves() {
        ThresholdLines x = new ThresholdLines(2, 1);
        for (int shelf = 0; shelf < 8; shelf++) {
            Check.tape(x, "turn kept " + shelf);
            Check.due("nothing on " + shelf, x.draw(), -1);
            Check.due("its fault", x.fault(0), 2);
            Check.due("its place", x.fault(1), 10);
        }
        x.keep(7);
        Check.tape(x, "kept 7");
        Check.due("something on 7", x.draw(), 2);
        Check.tape(x, "kept 6");
        Check.due("nothing on 6 still", x.draw(), -1);
        x.keep(0);
        Check.tape(x, "kept 0");
        Check.due("something on 0", x.draw(), 2);
    }

    private static void ninthOpen() {
        for (String word : OPENING) {
            String around = word.startsWith("set") ? "set 2 1 1 " : word;
            due("turn ".repeat(8) + around, 3, 40);
            due("row 1 ".repeat(8) + word.trim().split(" ")[0], 3, 48);
        }
        for (String word : OPENING) {
            String text = word.repeat(8);
            due(text + "turn plain 2 1", 3, text.length());
        }
        for (String word : new String[] {"set 2 1 1 ", "flip ", "row 1 "}) {
            drawn(word.repeat(8) + "plain 2 1");
            due(word.repeat(9) + "plain 2 1", 3, word.length() * 8);
        }
        drawn("turn ".repeat(8) + "kept 3");
        drawn("over plain 1 1 ".repeat(8) + "plain 1 1");
        due("over plain 1 1 ".repeat(9) + "plain 1 1", 3, 120);
        drawn("over ".repeat(8) + "plain 1 1 ".repeat(9));
        due("over ".repeat(9) + "plain 1 1 ".repeat(10), 3, 40);
        // What is closed by then is not around what follows.
        drawn("over " + "flip ".repeat(7) + "plain 1 1 " + "flip ".repeat(7) + "plain 1 1");
        due("over " + "flip ".repeat(7) + "plain 1 1 " + "flip ".repeat(8) + "plain 1 1", 3, 85);
        drawn("over over flip flip plain 1 1 flip plain 1 1 over flip plain 1 1 flip flip flip flip flip flip plain 1 1");
        // All seven words are counted alike.
        String eight = "set 2 1 1 turn flip row 1 over plain 1 1 above plain 1 1 beside plain 1 1 turn ";
        for (String word : OPENING) {
            due(eight + word + "plain 1 1", 3, eight.length());
        }
    }

    private static void readToItsEnd() {
        // Nothing is told of an E's size before its last token is read.
        due("beside plain 8 1 plain 8 x", 1, 25);
        due("beside plain 8 1 turn", 1, 21);
        due("row 8 plain 8", 1, 13);
        due("set 1 1 1 plain 8", 1, 17);
        due("above plain 8 8 over plain 1 1", 1, 30);
        // And then it is, though the text goes on wrongly.
        due("beside plain 8 1 plain 8 1 x", 4, 0);
        due("set 1 1 1 plain 8 8.", 4, 0);
        due("turn row 8 plain 8 8 9", 4, 5);
        // The inner E ends first.
        due("row 8 row 8 plain 8 8", 4, 6);
        due("beside plain 8 1 beside plain 8 2 plain 8 2", 4, 17);
        due("set 1 1 1 set 3 3 1 plain 2 2", 4, 10);
    }

    private static void tooLarge() {
        drawn("beside plain 4 8 plain 4 8");
        due("beside plain 4 8 plain 5 8", 4, 0);
        drawn("above plain 8 4 plain 8 4");
        due("above plain 8 4 plain 8 5", 4, 0);
        drawn("row 2 plain 4 8");
        due("row 2 plain 5 8", 4, 0);
        due("row 8 plain 8 8", 4, 0);
        due("above plain 8 8 plain 8 8", 4, 0);
        due("turn above plain 4 4 plain 4 5", 4, 5);
        drawn("above turn plain 3 8 turn plain 5 8");
        due("beside turn plain 8 4 turn plain 8 5", 4, 0);
        drawn("beside beside plain 3 1 plain 3 1 plain 2 1");
        due("beside beside plain 3 1 plain 3 1 plain 3 1", 4, 0);
    }

    private static void sizesDiffer() {
        for (int one = 1; one <= 3; one++) {
            for (int other = 1; other <= 3; other++) {
                int kind = one == other ? 0 : 4;
                int place = one == other ? -1 : 0;
                due("beside plain 2 " + one + " plain 1 " + other, kind, place);
                due("above plain " + one + " 2 plain " + other + " 1", kind, place);
                due("over plain " + one + " 2 plain " + other + " 2", kind, place);
                due("over plain 2 " + one + " plain 2 " + other, kind, place);
            }
        }
        drawn("beside kept 3 plain 1 2");
        due("beside kept 3 plain 1 3", 4, 0);
        drawn("over kept 3 turn plain 2 3");
        due("over kept 3 turn plain 3 2", 4, 0);
    }

    private static void noInnerPoint() {
        for (int[] size : new int[][] {{1, 1}, {3, 2}, {1, 8}, {8, 8}}) {
            for (int i = 0; i <= 16; i++) {
                for (int j = 0; j <= 16; j++) {
                    boolean inner = i > 0 && i < 2 * size[0] && j > 0 && j < 2 * size[1] && (i + j) % 2 == 1;
                    due("set " + i + " " + j + " 0 plain " + size[0] + " " + size[1], inner ? 0 : 4, inner ? -1 : 0);
                }
            }
        }
        // Of the E that it is set in, not of what that is part of.
        due("beside set 2 1 1 plain 1 1 plain 1 1", 4, 7);
        drawn("set 2 1 1 beside plain 1 1 plain 1 1");
        due("set 5 2 1 turn plain 3 2", 4, 0);
        drawn("set 1 4 1 turn plain 3 2");
    }

    private static void atItsWord() {
        for (int blanks = 1; blanks < 20; blanks++) {
            String before = "turn" + " ".repeat(blanks);
            due(before + "set 1 1 1 plain 1 1", 4, before.length());
            due(before + "row 5 plain 2 1", 4, before.length());
            due(before + "beside plain 1 1 plain 1 2", 4, before.length());
            due(before + "above plain 1 1 plain 2 1", 4, before.length());
            due(before + "over plain 1 1 plain 2 1", 4, before.length());
        }
        due("over plain 1 1 over plain 1 1 plain 1 2", 4, 15);
        due("over over plain 1 1 plain 1 1 plain 1 2", 4, 0);
    }
}
