import java.util.Arrays;

/** Drawings before a door: closed lines round rows of dots between little mirrors. */
public final class ThresholdLines {
    public static final int NONE = -1;

    private static final int MOST_DOTS = 8;
    private static final int MOST_SQUARES = 256;
    private static final int MOST_PLACES = 128;
    private static final int MOST_BYTES = 200;
    private static final int MOST_OPEN = 8;
    private static final int SHELF_COUNT = 8;

    private static final int NO_MIRROR = 0;
    private static final int STANDING = 1;
    private static final int LYING = 2;

    private static final int WRONG_TOKEN = 1;
    private static final int WRONG_NUMBER = 2;
    private static final int TOO_DEEP = 3;
    private static final int WRONG_SIZE = 4;

    private static final int WRONG_BYTE = 1;
    private static final int LEAVES = 2;
    private static final int GONE_BEFORE = 3;
    private static final int NOT_CLOSED = 4;

    private static final int WORD_PLAIN = 1;
    private static final int WORD_SET = 2;
    private static final int WORD_TURN = 3;
    private static final int WORD_FLIP = 4;
    private static final int WORD_BESIDE = 5;
    private static final int WORD_ABOVE = 6;
    private static final int WORD_OVER = 7;
    private static final int WORD_ROW = 8;
    private static final int WORD_KEPT = 9;

    private final Drawing drawing;
    private final Drawing spare;
    private final int[] pins;
    private final Drawing[] shelves;
    private final LineFinder finder;
    private final Joiner joiner;
    private final Tape tape;
    private final TextReader textReader;
    private final WalkReader walkReader;
    private boolean linesKnown;
    private boolean joinKnown;

    public ThresholdLines(int wide, int high) {
        drawing = new Drawing();
        drawing.clear(Math.min(Math.max(wide, 1), MOST_DOTS), Math.min(Math.max(high, 1), MOST_DOTS));
        spare = new Drawing();
        pins = new int[MOST_PLACES];
        shelves = new Drawing[SHELF_COUNT];
        finder = new LineFinder();
        joiner = new Joiner();
        tape = new Tape();
        textReader = new TextReader(tape, shelves);
        walkReader = new WalkReader(tape);
        linesKnown = false;
        joinKnown = false;
    }

    public boolean set(int i, int j, int mirror) {
        if (!drawing.isInner(i, j) || mirror < NO_MIRROR || mirror > LYING) {
            return false;
        }
        drawing.put(i, j, mirror);
        forgetLines();
        return true;
    }

    public int mirror(int i, int j) {
        return drawing.isInner(i, j) ? drawing.mirrorAt(i, j) : NONE;
    }

    public boolean pin(int i, int j, boolean it) {
        if (!drawing.isInner(i, j)) {
            return false;
        }
        pins[placeOf(i, j)] = it ? 1 : 0;
        joinKnown = false;
        return true;
    }

    public int lines() {
        knowLines();
        return finder.count;
    }

    public int lineOf(int square) {
        if (!drawing.isSquare(square)) {
            return NONE;
        }
        knowLines();
        return finder.lineThrough(square);
    }

    public int line(int l, int what) {
        knowLines();
        if (!finder.isLine(l)) {
            return NONE;
        }
        switch (what) {
            case 0:
                return finder.lengthOf(l);
            case 1:
                return finder.squareOf(l, 0);
            case 2:
                return dotsHeld(l, 4);
            case 3:
                return dotsHeld(l, 1);
            case 4:
                return pointsMetTwice(l);
            default:
                return NONE;
        }
    }

    public int walk(int l, int k) {
        knowLines();
        return finder.squareOf(l, k);
    }

    public int holds(int l, int x, int y) {
        knowLines();
        if (!finder.isLine(l) || x < 0 || x >= drawing.wide || y < 0 || y >= drawing.high) {
            return NONE;
        }
        return squaresRound(l, 2 * x + 1, 2 * y + 1);
    }

    public int colour(int square) {
        if (!drawing.isSquare(square)) {
            return NONE;
        }
        knowLines();
        return finder.placeInWalk(square) & 1;
    }

    public int coloured(int k, boolean column) {
        int rowLength = 2 * drawing.wide;
        int columnLength = 2 * drawing.high;
        if (k < 0 || k >= (column ? rowLength : columnLength)) {
            return NONE;
        }
        knowLines();
        int first = column ? k : rowLength * k;
        int step = column ? rowLength : 1;
        int length = column ? columnLength : rowLength;
        int ones = 0;
        for (int n = 0; n < length; n++) {
            ones += finder.placeInWalk(first + step * n) & 1;
        }
        return ones;
    }

    public int joined(int what) {
        knowJoin();
        switch (what) {
            case 0:
                return finder.count - joiner.count;
            case 1:
                return joiner.count;
            default:
                return NONE;
        }
    }

    public int change(int k, int what) {
        knowJoin();
        if (k < 0 || k >= joiner.count) {
            return NONE;
        }
        int i = joiner.columnOf(k);
        int j = joiner.rowOf(k);
        switch (what) {
            case 0:
                return i;
            case 1:
                return j;
            case 2:
                return lowerOther(drawing.mirrorAt(i, j));
            default:
                return NONE;
        }
    }

    public int join() {
        knowJoin();
        int changes = joiner.count;
        for (int k = 0; k < changes; k++) {
            int i = joiner.columnOf(k);
            int j = joiner.rowOf(k);
            drawing.put(i, j, lowerOther(drawing.mirrorAt(i, j)));
        }
        forgetLines();
        return changes;
    }

    public int feed(int a, int b, int c, int d, int e) {
        if (tape.length + 20 > MOST_BYTES) {
            return NONE;
        }
        tape.add(a);
        tape.add(b);
        tape.add(c);
        tape.add(d);
        tape.add(e);
        return tape.length;
    }

    public int end(int n) {
        if (n < 0 || n > tape.length) {
            return NONE;
        }
        tape.length = n;
        return n;
    }

    public int draw() {
        boolean told = textReader.readInto(spare);
        tape.length = 0;
        if (!told) {
            return NONE;
        }
        takeSpare();
        return drawing.wide * drawing.high;
    }

    public int back(int wide, int high, int i, int j) {
        if (!isDots(wide) || !isDots(high)) {
            return NONE;
        }
        spare.clear(wide, high);
        if (!spare.isPoint(i, j)) {
            return NONE;
        }
        boolean told = walkReader.readInto(spare, i, j);
        tape.length = 0;
        if (!told) {
            return NONE;
        }
        takeSpare();
        return walkReader.pointsMet;
    }

    public int fault(int what) {
        if (!tape.wasRead) {
            return NONE;
        }
        switch (what) {
            case 0:
                return tape.faultKind;
            case 1:
                return tape.faultPlace;
            default:
                return NONE;
        }
    }

    public boolean keep(int shelf) {
        if (shelf < 0 || shelf >= SHELF_COUNT) {
            return false;
        }
        if (shelves[shelf] == null) {
            shelves[shelf] = new Drawing();
        }
        shelves[shelf].copy(drawing);
        return true;
    }

    public int like(int shelf, int what) {
        if (shelf < 0 || shelf >= SHELF_COUNT || what < 0 || what > 1) {
            return NONE;
        }
        Drawing kept = shelves[shelf];
        if (kept == null) {
            return NONE;
        }
        boolean same = what == 0 ? kept.isSameAs(drawing) : waysFrom(kept) > 0;
        return same ? 1 : 0;
    }

    public int alike() {
        return waysFrom(drawing);
    }

    public int about(int what) {
        switch (what) {
            case 0:
                return drawing.wide;
            case 1:
                return drawing.high;
            case 2:
                return drawing.wide * (drawing.high - 1) + drawing.high * (drawing.wide - 1);
            case 3:
                return drawing.countOf(STANDING);
            case 4:
                return drawing.countOf(LYING);
            case 5:
                return pinCount();
            case 6:
                return shelvesUsed();
            case 7:
                return tape.length;
            case 8:
                return drawing.squareCount();
            default:
                return NONE;
        }
    }

    private static boolean isDots(int number) {
        return number >= 1 && number <= MOST_DOTS;
    }

    /** In one row j all points have i of the same parity, so i / 2 is enough to tell them apart. */
    private static int placeOf(int i, int j) {
        return 8 * j + i / 2;
    }

    private static int lowerOther(int mirror) {
        return mirror == NO_MIRROR ? STANDING : NO_MIRROR;
    }

    private void forgetLines() {
        linesKnown = false;
        joinKnown = false;
    }

    private void knowLines() {
        if (!linesKnown) {
            finder.findAll(drawing);
            linesKnown = true;
        }
    }

    private void knowJoin() {
        knowLines();
        if (!joinKnown) {
            joiner.choose(drawing, pins, finder);
            joinKnown = true;
        }
    }

    private void takeSpare() {
        drawing.copy(spare);
        Arrays.fill(pins, 0);
        forgetLines();
    }

    /** How many of the four squares that meet at (i, j), a corner inside the drawing, are of a line. */
    private int squaresRound(int l, int i, int j) {
        int rowLength = 2 * drawing.wide;
        int lowerRight = rowLength * j + i;
        int many = 0;
        many += finder.lineThrough(lowerRight) == l ? 1 : 0;
        many += finder.lineThrough(lowerRight - 1) == l ? 1 : 0;
        many += finder.lineThrough(lowerRight - rowLength) == l ? 1 : 0;
        many += finder.lineThrough(lowerRight - rowLength - 1) == l ? 1 : 0;
        return many;
    }

    private int dotsHeld(int l, int atLeast) {
        int dots = 0;
        for (int y = 0; y < drawing.high; y++) {
            for (int x = 0; x < drawing.wide; x++) {
                if (squaresRound(l, 2 * x + 1, 2 * y + 1) >= atLeast) {
                    dots++;
                }
            }
        }
        return dots;
    }

    /** Two passes at a point take up its four squares, so all four are the line's if both passes are. */
    private int pointsMetTwice(int l) {
        int points = 0;
        for (int j = 1; j < 2 * drawing.high; j++) {
            for (int i = 1 + (j & 1); i < 2 * drawing.wide; i += 2) {
                if (squaresRound(l, i, j) == 4) {
                    points++;
                }
            }
        }
        return points;
    }

    /** By how many of the eight turns and flips a drawing comes to be the one that is there. */
    private int waysFrom(Drawing from) {
        int ways = 0;
        for (int turns = 0; turns < 4; turns++) {
            spare.takeTurned(from, turns, false);
            ways += spare.isSameAs(drawing) ? 1 : 0;
            spare.takeTurned(from, turns, true);
            ways += spare.isSameAs(drawing) ? 1 : 0;
        }
        return ways;
    }

    private int pinCount() {
        int many = 0;
        for (int pinned : pins) {
            many += pinned;
        }
        return many;
    }

    private int shelvesUsed() {
        int many = 0;
        for (Drawing kept : shelves) {
            many += kept != null ? 1 : 0;
        }
        return many;
    }

    /** A size and its mirrors. Places that are no inner points of the size hold no mirror. */
    private static final class Drawing {
        int wide = 1;
        int high = 1;
        private final int[] mirrors = new int[MOST_PLACES];

        /** Makes it plain, of a size; a size that can't be is left aside. */
        void clear(int newWide, int newHigh) {
            if (isDots(newWide) && isDots(newHigh)) {
                wide = newWide;
                high = newHigh;
            }
            Arrays.fill(mirrors, NO_MIRROR);
        }

        boolean isPoint(int i, int j) {
            return i >= 0 && i <= 2 * wide && j >= 0 && j <= 2 * high && ((i + j) & 1) == 1;
        }

        boolean isInner(int i, int j) {
            return i > 0 && i < 2 * wide && j > 0 && j < 2 * high && ((i + j) & 1) == 1;
        }

        boolean isSquare(int square) {
            return square >= 0 && square < squareCount();
        }

        int squareCount() {
            return 4 * wide * high;
        }

        int mirrorAt(int i, int j) {
            return isInner(i, j) ? mirrors[placeOf(i, j)] : NO_MIRROR;
        }

        void put(int i, int j, int mirror) {
            if (isInner(i, j)) {
                mirrors[placeOf(i, j)] = mirror;
            }
        }

        void copy(Drawing from) {
            wide = from.wide;
            high = from.high;
            System.arraycopy(from.mirrors, 0, mirrors, 0, MOST_PLACES);
        }

        boolean isSameAs(Drawing other) {
            if (wide != other.wide || high != other.high) {
                return false;
            }
            for (int place = 0; place < MOST_PLACES; place++) {
                if (mirrors[place] != other.mirrors[place]) {
                    return false;
                }
            }
            return true;
        }

        int countOf(int mirror) {
            int many = 0;
            for (int found : mirrors) {
                many += found == mirror ? 1 : 0;
            }
            return many;
        }

        /** Becomes another drawing, turned 0 .. 3 quarters to the right, then flipped or not. */
        void takeTurned(Drawing from, int turns, boolean flipped) {
            boolean odd = (turns & 1) == 1;
            clear(odd ? from.high : from.wide, odd ? from.wide : from.high);
            for (int j = 1; j < 2 * from.high; j++) {
                for (int i = 1 + (j & 1); i < 2 * from.wide; i += 2) {
                    int found = from.mirrorAt(i, j);
                    int toI = turnedColumn(from, turns, i, j);
                    int toJ = turnedRow(from, turns, i, j);
                    int shown = odd && found != NO_MIRROR ? STANDING + LYING - found : found;
                    put(flipped ? 2 * wide - toI : toI, toJ, shown);
                }
            }
        }

        private static int turnedColumn(Drawing from, int turns, int i, int j) {
            switch (turns) {
                case 1:
                    return 2 * from.high - j;
                case 2:
                    return 2 * from.wide - i;
                case 3:
                    return j;
                default:
                    return i;
            }
        }

        private static int turnedRow(Drawing from, int turns, int i, int j) {
            switch (turns) {
                case 1:
                    return i;
                case 2:
                    return 2 * from.high - j;
                case 3:
                    return 2 * from.wide - i;
                default:
                    return j;
            }
        }

        /** Grows to the right by another drawing; false if it would be too wide or heights differ. */
        boolean growBeside(Drawing other) {
            int shift = 2 * wide;
            if (high != other.high || !isDots(wide + other.wide)) {
                return false;
            }
            wide += other.wide;
            layMirrors(other, shift, 0);
            return true;
        }

        /** Grows downwards by another drawing; false if it would be too high or widths differ. */
        boolean growBelow(Drawing other) {
            int shift = 2 * high;
            if (wide != other.wide || !isDots(high + other.high)) {
                return false;
            }
            high += other.high;
            layMirrors(other, 0, shift);
            return true;
        }

        /** Takes another drawing's mirrors where that has some; false if sizes differ. */
        boolean coverWith(Drawing other) {
            if (wide != other.wide || high != other.high) {
                return false;
            }
            layMirrors(other, 0, 0);
            return true;
        }

        private void layMirrors(Drawing other, int right, int down) {
            for (int j = 1; j < 2 * other.high; j++) {
                for (int i = 1 + (j & 1); i < 2 * other.wide; i += 2) {
                    int found = other.mirrorAt(i, j);
                    if (found != NO_MIRROR) {
                        put(i + right, j + down, found);
                    }
                }
            }
        }
    }

    /** The lines of a drawing and their walks. */
    private static final class LineFinder {
        int count;
        private final int[] lineAt = new int[MOST_SQUARES];
        private final int[] placeAt = new int[MOST_SQUARES];
        /** All walks, one behind the other; beginOf tells where each begins, and where the last ends. */
        private final int[] walked = new int[MOST_SQUARES];
        private final int[] beginOf = new int[MOST_SQUARES + 1];

        void findAll(Drawing drawing) {
            Arrays.fill(lineAt, NONE);
            count = 0;
            beginOf[0] = 0;
            for (int b = 0; b < 2 * drawing.high; b++) {
                for (int a = 0; a < 2 * drawing.wide; a++) {
                    if (lineThrough(2 * drawing.wide * b + a) == NONE) {
                        follow(drawing, a, b);
                    }
                }
            }
        }

        /** Walks a line from its least square on, that one to the right. */
        private void follow(Drawing drawing, int leastA, int leastB) {
            int begin = beginOf[count];
            int end = begin;
            int a = leastA;
            int b = leastB;
            int right = 1;
            int down = ((a + b) & 1) == 0 ? -1 : 1;
            for (int n = 0; n < MOST_SQUARES; n++) {
                int square = 2 * drawing.wide * b + a;
                if (!drawing.isSquare(square) || lineThrough(square) != NONE || end >= MOST_SQUARES) {
                    break;
                }
                lineAt[square] = count;
                placeAt[square] = end - begin;
                walked[end] = square;
                end++;
                int i = right > 0 ? a + 1 : a;
                int j = down > 0 ? b + 1 : b;
                int found = drawing.mirrorAt(i, j);
                if (i == 0 || i == 2 * drawing.wide || found == STANDING) {
                    right = -right;
                } else if (j == 0 || j == 2 * drawing.high || found == LYING) {
                    down = -down;
                }
                a = right > 0 ? i : i - 1;
                b = down > 0 ? j : j - 1;
            }
            if (count < MOST_SQUARES) {
                count++;
                beginOf[count] = end;
            }
        }

        boolean isLine(int l) {
            return l >= 0 && l < count;
        }

        int lineThrough(int square) {
            return square >= 0 && square < MOST_SQUARES ? lineAt[square] : NONE;
        }

        int placeInWalk(int square) {
            return square >= 0 && square < MOST_SQUARES ? placeAt[square] : 0;
        }

        int lengthOf(int l) {
            return isLine(l) ? beginOf[l + 1] - beginOf[l] : 0;
        }

        int squareOf(int l, int k) {
            return k >= 0 && k < lengthOf(l) ? walked[beginOf[l] + k] : NONE;
        }
    }

    /**
     * Chooses the points to change. A change where two lines meet makes them one, whichever mirror
     * comes; elsewhere it makes no line fewer. So the fewest changes are a forest of lines, and the
     * first forest takes each point, by j then i, at which two still meet that aren't joined yet.
     */
    private static final class Joiner {
        int count;
        private final int[] changedI = new int[MOST_PLACES];
        private final int[] changedJ = new int[MOST_PLACES];
        private final int[] groupOf = new int[MOST_SQUARES];

        void choose(Drawing drawing, int[] pins, LineFinder finder) {
            count = 0;
            for (int l = 0; l < MOST_SQUARES; l++) {
                groupOf[l] = l;
            }
            for (int j = 1; j < 2 * drawing.high; j++) {
                for (int i = 1 + (j & 1); i < 2 * drawing.wide; i += 2) {
                    if (pins[placeOf(i, j)] == 0) {
                        tryPoint(drawing, finder, i, j);
                    }
                }
            }
        }

        private void tryPoint(Drawing drawing, LineFinder finder, int i, int j) {
            int rowLength = 2 * drawing.wide;
            int lowerRight = rowLength * j + i;
            int upperRight = lowerRight - rowLength;
            int upperLeft = upperRight - 1;
            boolean straight = drawing.mirrorAt(i, j) == NO_MIRROR;
            int one = finder.lineThrough(upperLeft);
            // Straight on, the upper left square goes with the lower right one; at a mirror never.
            int other = finder.lineThrough(straight ? upperRight : lowerRight);
            if (one < 0 || other < 0 || count >= MOST_PLACES) {
                return;
            }
            if (groupOf[one] != groupOf[other]) {
                unite(groupOf[one], groupOf[other]);
                changedI[count] = i;
                changedJ[count] = j;
                count++;
            }
        }

        private void unite(int kept, int given) {
            for (int l = 0; l < MOST_SQUARES; l++) {
                if (groupOf[l] == given) {
                    groupOf[l] = kept;
                }
            }
        }

        int columnOf(int k) {
            return k >= 0 && k < count ? changedI[k] : NONE;
        }

        int rowOf(int k) {
            return k >= 0 && k < count ? changedJ[k] : NONE;
        }
    }

    /** The bytes, and what was found wrong with those that were read last. */
    private static final class Tape {
        int length;
        boolean wasRead;
        int faultKind;
        int faultPlace = NONE;
        private final int[] bytes = new int[MOST_BYTES];

        void add(int fourBytes) {
            for (int shift = 24; shift >= 0; shift -= 8) {
                if (length >= 0 && length < MOST_BYTES) {
                    bytes[length] = (fourBytes >>> shift) & 255;
                    length++;
                }
            }
        }

        /** NONE behind the end. */
        int byteAt(int place) {
            return place >= 0 && place < length && place < MOST_BYTES ? bytes[place] : NONE;
        }

        void beginReading() {
            wasRead = true;
            faultKind = 0;
            faultPlace = NONE;
        }

        /** Answers false, as what was to be read is not told. */
        boolean fail(int kind, int place) {
            faultKind = kind;
            faultPlace = place;
            return false;
        }
    }

    /** The tokens of a tape, one at a time. */
    private static final class Tokens {
        /** Where the token begins; behind the last one the tape's length. */
        int start;
        /** What a number counts to, NONE if the token is no number. */
        int number;
        boolean atEnd;
        private final Tape tape;
        private int next;

        Tokens(Tape tape) {
            this.tape = tape;
        }

        void rewind() {
            next = 0;
        }

        void advance() {
            while (next < tape.length && isBlank(tape.byteAt(next))) {
                next++;
            }
            start = next;
            number = NONE;
            atEnd = next >= tape.length;
            if (isDigit(tape.byteAt(next))) {
                takeNumber();
            }
            while (number == NONE && next < tape.length && isLetter(tape.byteAt(next))) {
                next++;
            }
        }

        private void takeNumber() {
            number = 0;
            while (next < tape.length && isDigit(tape.byteAt(next))) {
                // All numbers from 100 on are wrong alike, so a long one need not be counted out.
                number = Math.min(10 * number + tape.byteAt(next) - '0', 100);
                next++;
            }
        }

        /** The WORD_ number of the token, 0 if it is none of the words. */
        int wordFound() {
            if (spells("plain")) {
                return WORD_PLAIN;
            } else if (spells("set")) {
                return WORD_SET;
            } else if (spells("turn")) {
                return WORD_TURN;
            } else if (spells("flip")) {
                return WORD_FLIP;
            } else if (spells("beside")) {
                return WORD_BESIDE;
            } else if (spells("above")) {
                return WORD_ABOVE;
            } else if (spells("over")) {
                return WORD_OVER;
            } else if (spells("row")) {
                return WORD_ROW;
            } else if (spells("kept")) {
                return WORD_KEPT;
            }
            return 0;
        }

        private boolean spells(String text) {
            if (next - start != text.length()) {
                return false;
            }
            for (int n = 0; n < text.length(); n++) {
                if (tape.byteAt(start + n) != text.charAt(n)) {
                    return false;
                }
            }
            return true;
        }

        private static boolean isBlank(int found) {
            return found == 32 || found == 10;
        }

        private static boolean isDigit(int found) {
            return found >= '0' && found <= '9';
        }

        private static boolean isLetter(int found) {
            return found >= 'a' && found <= 'z';
        }
    }

    /**
     * Reads a text. Each E is read into a slot; a word with two of them uses its own slot and the
     * next, so one slot more than words can be open is enough.
     */
    private static final class TextReader {
        private final Tape tape;
        private final Tokens tokens;
        private final Drawing[] shelves;
        private final Drawing[] slots;
        private final Drawing spare;

        TextReader(Tape tape, Drawing[] shelves) {
            this.tape = tape;
            this.shelves = shelves;
            tokens = new Tokens(tape);
            slots = new Drawing[MOST_OPEN + 1];
            for (int n = 0; n < slots.length; n++) {
                slots[n] = new Drawing();
            }
            spare = new Drawing();
        }

        boolean readInto(Drawing told) {
            tape.beginReading();
            tokens.rewind();
            if (!readOne(0, 0)) {
                return false;
            }
            tokens.advance();
            if (!tokens.atEnd) {
                return tape.fail(WRONG_TOKEN, tokens.start);
            }
            told.copy(slots[0]);
            return true;
        }

        /** Reads an E with so many words open around it. */
        private boolean readOne(int open, int slot) {
            tokens.advance();
            int word = tokens.wordFound();
            int place = tokens.start;
            if (slot < 0 || slot >= slots.length || word == 0) {
                return tape.fail(WRONG_TOKEN, place);
            }
            if (word == WORD_PLAIN) {
                return readPlain(slots[slot]);
            }
            if (word == WORD_KEPT) {
                return readKept(slots[slot]);
            }
            if (open >= MOST_OPEN) {
                return tape.fail(TOO_DEEP, place);
            }
            switch (word) {
                case WORD_SET:
                    return readSet(open + 1, slot, place);
                case WORD_ROW:
                    return readRow(open + 1, slot, place);
                case WORD_TURN:
                case WORD_FLIP:
                    return readTurned(open + 1, slot, word);
                default:
                    return readPair(open + 1, slot, word, place);
            }
        }

        private boolean readPlain(Drawing told) {
            int wide = readNumber(1, MOST_DOTS);
            if (wide == NONE) {
                return false;
            }
            int high = readNumber(1, MOST_DOTS);
            if (high == NONE) {
                return false;
            }
            told.clear(wide, high);
            return true;
        }

        private boolean readKept(Drawing told) {
            int shelf = readNumber(0, SHELF_COUNT - 1);
            if (shelf < 0 || shelf >= shelves.length) {
                return false;
            }
            Drawing kept = shelves[shelf];
            if (kept == null) {
                return tape.fail(WRONG_NUMBER, tokens.start);
            }
            told.copy(kept);
            return true;
        }

        private boolean readSet(int open, int slot, int place) {
            int i = readNumber(0, 2 * MOST_DOTS);
            if (i == NONE) {
                return false;
            }
            int j = readNumber(0, 2 * MOST_DOTS);
            if (j == NONE) {
                return false;
            }
            int mirror = readNumber(NO_MIRROR, LYING);
            if (mirror == NONE || !readOne(open, slot)) {
                return false;
            }
            if (!slots[slot].isInner(i, j)) {
                return tape.fail(WRONG_SIZE, place);
            }
            slots[slot].put(i, j, mirror);
            return true;
        }

        private boolean readRow(int open, int slot, int place) {
            int many = readNumber(1, MOST_DOTS);
            if (many == NONE || !readOne(open, slot)) {
                return false;
            }
            spare.copy(slots[slot]);
            for (int n = 1; n < many; n++) {
                if (!slots[slot].growBeside(spare)) {
                    return tape.fail(WRONG_SIZE, place);
                }
            }
            return true;
        }

        private boolean readTurned(int open, int slot, int word) {
            if (!readOne(open, slot)) {
                return false;
            }
            spare.takeTurned(slots[slot], word == WORD_TURN ? 1 : 0, word == WORD_FLIP);
            slots[slot].copy(spare);
            return true;
        }

        private boolean readPair(int open, int slot, int word, int place) {
            if (slot + 1 >= slots.length || !readOne(open, slot) || !readOne(open, slot + 1)) {
                return false;
            }
            Drawing first = slots[slot];
            Drawing second = slots[slot + 1];
            boolean fits;
            if (word == WORD_BESIDE) {
                fits = first.growBeside(second);
            } else if (word == WORD_ABOVE) {
                fits = first.growBelow(second);
            } else {
                fits = first.coverWith(second);
            }
            return fits || tape.fail(WRONG_SIZE, place);
        }

        /** NONE, with the fault told, if the next token is no number of least .. most. */
        private int readNumber(int least, int most) {
            tokens.advance();
            int number = tokens.number;
            if (number == NONE) {
                tape.fail(WRONG_TOKEN, tokens.start);
                return NONE;
            }
            if (number < least || number > most) {
                tape.fail(WRONG_NUMBER, tokens.start);
                return NONE;
            }
            return number;
        }
    }

    /** Reads a walk back. */
    private static final class WalkReader {
        int pointsMet;
        private final Tape tape;
        private final int[] gone = new int[MOST_SQUARES];
        private final int[] met = new int[MOST_PLACES];
        /** The way of the latest step. */
        private int right;
        private int down;

        WalkReader(Tape tape) {
            this.tape = tape;
        }

        /** Puts what the walk tells into a plain drawing of its size, from one of its points. */
        boolean readInto(Drawing told, int firstI, int firstJ) {
            tape.beginReading();
            Arrays.fill(gone, 0);
            Arrays.fill(met, 0);
            pointsMet = 0;
            int i = firstI;
            int j = firstJ;
            for (int k = 0; k < tape.length; k++) {
                int step = tape.byteAt(k);
                if (step < 'a' || step > 'd') {
                    return tape.fail(WRONG_BYTE, k);
                }
                int toI = i + rightOf(step);
                int toJ = j + downOf(step);
                if (!told.isPoint(toI, toJ)) {
                    return tape.fail(LEAVES, k);
                }
                int square = 2 * told.wide * Math.min(j, toJ) + Math.min(i, toI);
                if (!told.isSquare(square) || gone[square] != 0) {
                    return tape.fail(GONE_BEFORE, k);
                }
                gone[square] = 1;
                if (k > 0) {
                    tellPoint(told, i, j, step);
                }
                right = rightOf(step);
                down = downOf(step);
                i = toI;
                j = toJ;
            }
            if (tape.length == 0 || i != firstI || j != firstJ) {
                return tape.fail(NOT_CLOSED, tape.length);
            }
            tellPoint(told, i, j, tape.byteAt(0));
            return true;
        }

        /** What is at a point, if the latest step came to it and another goes on from it. */
        private void tellPoint(Drawing told, int i, int j, int step) {
            if (!told.isInner(i, j)) {
                return;
            }
            int found = NO_MIRROR;
            if (right != rightOf(step)) {
                found = STANDING;
            } else if (down != downOf(step)) {
                found = LYING;
            }
            told.put(i, j, found);
            int place = placeOf(i, j);
            if (met[place] == 0) {
                met[place] = 1;
                pointsMet++;
            }
        }

        private static int rightOf(int step) {
            return step == 'a' || step == 'd' ? 1 : -1;
        }

        private static int downOf(int step) {
            return step == 'a' || step == 'b' ? 1 : -1;
        }
    }
}
