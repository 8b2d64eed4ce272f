import java.util.ArrayList;
import java.util.Arrays;
import java.util.List;
import java.util.Random;

/** Runs of up to 512 calls of all kinds, made at random from fixed seeds; each answer against a second program. */
public final class RunsTest {
    private static final int RUNS = 600;
    /** What is asked at a run's end takes some 460 calls more, and one choice up to 17: all stay within 512. */
    private static final int SHORT = 35;
    private static final int LONG = 495;
    /** How often each kind of answer came, so that a run that asks little is seen. */
    private static final int[] FAULTS = new int[5];
    /** By the answers of like, added up: nothing on the shelf, neither, turned or flipped alone, the same. */
    private static final int[] LIKENESS = new int[5];
    private static int drawn = 0;
    private static int walkedBack = 0;
    private static final int[] BACK_FAULTS = new int[5];

    private final Random random;
    /** Asked only what is compared, so that no other call makes its answers ready. */
    private final ThresholdLines x;
    private final Second due;
    private final int run;
    private int calls = 0;

    private RunsTest(int run) {
        this.run = run;
        random = new Random(1000 + run);
        int wide = size();
        int high = size();
        x = new ThresholdLines(wide, high);
        due = new Second(wide, high);
    }

    public static void main(String[] args) {
        for (int run = 0; run < RUNS; run++) {
            RunsTest test = new RunsTest(run);
            while (test.calls < (run % 2 == 0 ? SHORT : LONG)) {
                test.some();
            }
            if (run % 2 == 0) {
                test.dueWhole();
            }
            Check.due("calls of run " + run + ": " + test.calls, test.calls <= 512, true);
        }
        Check.due("enough was drawn: " + drawn, drawn > 1000, true);
        Check.due("enough was walked back: " + walkedBack, walkedBack > 500, true);
        for (int kind = 1; kind <= 4; kind++) {
            Check.due("enough texts of fault " + kind + ": " + FAULTS[kind], FAULTS[kind] > 50, true);
            Check.due("enough walks of fault " + kind + ": " + BACK_FAULTS[kind], BACK_FAULTS[kind] > 50, true);
        }
        for (int sum : new int[] {-2, 0, 1, 2}) {
            Check.due("enough of likeness " + sum + ": " + LIKENESS[2 + sum], LIKENESS[2 + sum] > 50, true);
        }
        Check.finish();
    }

    private int size() {
        int[] far = {0, -1, 9, Made.LOW, Made.HIGH};
        return random.nextInt(12) == 0 ? far[random.nextInt(far.length)] : 1 + random.nextInt(8);
    }

    private void same(String call, long got, long want) {
        calls++;
        Check.due("run " + run + ", call " + calls + ": " + call, got, want);
    }

    private void same(String call, boolean got, boolean want) {
        same(call, got ? 1 : 0, want ? 1 : 0);
    }

    /** A number of 0 .. most mostly, else one near by or far away. */
    private int number(int most) {
        int kind = random.nextInt(20);
        if (kind == 0) {
            return Made.FAR[random.nextInt(Made.FAR.length)];
        }
        return kind == 1 ? most + 1 + random.nextInt(3) : kind == 2 ? -1 - random.nextInt(3) : random.nextInt(most + 1);
    }

    private void some() {
        int kind = random.nextInt(100);
        if (kind < 25) {
            changes();
        } else if (kind < 65) {
            questions();
        } else if (kind < 80) {
            joining();
        } else if (kind < 90) {
            texts();
        } else if (kind < 95) {
            walksBack();
        } else {
            tapes();
        }
    }

    private void changes() {
        int i = number(2 * due.about(0));
        int j = number(2 * due.about(1));
        switch (random.nextInt(6)) {
            case 0: {
                boolean it = random.nextInt(3) > 0;
                same("pin " + i + " " + j + " " + it, x.pin(i, j, it), due.pin(i, j, it));
                break;
            }
            case 1: {
                int shelf = number(7);
                same("keep " + shelf, x.keep(shelf), due.keep(shelf));
                break;
            }
            default: {
                int mirror = number(2);
                same("set " + i + " " + j + " " + mirror, x.set(i, j, mirror), due.set(i, j, mirror));
            }
        }
    }

    private void questions() {
        int l = number(due.lines() - 1);
        int square = number(due.about(8) - 1);
        int what = number(8);
        switch (random.nextInt(12)) {
            case 0: same("lines", x.lines(), due.lines()); break;
            case 1: same("lineOf " + square, x.lineOf(square), due.lineOf(square)); break;
            case 2: same("line " + l + " " + what % 5, x.line(l, what % 5), due.line(l, what % 5)); break;
            case 3: {
                int k = number(Math.max(0, due.line(l, 0)));
                same("walk " + l + " " + k, x.walk(l, k), due.walk(l, k));
                break;
            }
            case 4: {
                int dotX = number(due.about(0) - 1);
                int dotY = number(due.about(1) - 1);
                same("holds " + l + " " + dotX + " " + dotY, x.holds(l, dotX, dotY), due.holds(l, dotX, dotY));
                break;
            }
            case 5: same("colour " + square, x.colour(square), due.colour(square)); break;
            case 6: {
                boolean column = random.nextBoolean();
                int k = number(2 * due.about(column ? 0 : 1) - 1);
                same("coloured " + k + " " + column, x.coloured(k, column), due.coloured(k, column));
                break;
            }
            case 7: {
                int i = number(2 * due.about(0));
                int j = number(2 * due.about(1));
                same("mirror " + i + " " + j, x.mirror(i, j), due.mirror(i, j));
                break;
            }
            case 8: same("fault " + what % 3, x.fault(what % 3), due.fault(what % 3)); break;
            case 9: {
                int shelf = number(7);
                same("like " + shelf + " " + what % 3, x.like(shelf, what % 3), due.like(shelf, what % 3));
                break;
            }
            case 10: same("alike", x.alike(), due.alike()); break;
            default: same("about " + what, x.about(what), due.about(what));
        }
    }

    private void joining() {
        int what = number(2);
        switch (random.nextInt(6)) {
            case 0:
                same("join", x.join(), due.join());
                break;
            case 1:
            case 2:
                same("joined " + what, x.joined(what), due.joined(what));
                break;
            default: {
                int k = number(due.joined(1));
                same("change " + k + " " + what, x.change(k, what), due.change(k, what));
            }
        }
    }

    private void feedBoth(String text) {
        int room = 0;
        while (room < text.length()) {
            int[] words = new int[5];
            for (int n = 0; n < 20; n++) {
                int sign = room + n < text.length() ? text.charAt(room + n) : random.nextInt(256);
                words[n / 4] = words[n / 4] << 8 | sign & 255;
            }
            same("feed " + Arrays.toString(words), x.feed(words[0], words[1], words[2], words[3], words[4]),
                due.feed(words[0], words[1], words[2], words[3], words[4]));
            room += 20;
        }
    }

    private void tapeBoth(String text) {
        same("end 0", x.end(0), due.end(0));
        feedBoth(text);
        same("end " + text.length(), x.end(text.length()), due.end(text.length()));
    }

    private void texts() {
        int wide = 1 + random.nextInt(random.nextBoolean() ? 3 : 8);
        int high = 1 + random.nextInt(random.nextBoolean() ? 3 : 8);
        int kind = random.nextInt(6);
        String text = kind == 0 ? turnedKept() : kind == 1 ? chain(wide, high) : expression(random.nextInt(10), wide, high);
        if (random.nextInt(3) == 0 || text.length() > 200) {
            text = spoilt(text.substring(0, Math.min(190, text.length())));
        }
        tapeBoth(text);
        same("draw " + text, x.draw(), due.draw());
        dueFault(text);
        int shelf = random.nextInt(8);
        same("like " + shelf + " 0", x.like(shelf, 0), due.like(shelf, 0));
        same("like " + shelf + " 1", x.like(shelf, 1), due.like(shelf, 1));
        LIKENESS[2 + due.like(shelf, 0) + due.like(shelf, 1)]++;
        FAULTS[due.fault(0)]++;
        drawn += due.fault(0) == 0 ? 1 : 0;
    }

    /** A shelf's drawing turned and flipped, so that drawings are often like one that is kept. */
    private String turnedKept() {
        StringBuilder text = new StringBuilder();
        for (int n = random.nextInt(5); n > 0; n--) {
            text.append(random.nextBoolean() ? "turn " : "flip ");
        }
        return text.append("kept ").append(random.nextInt(8)).toString();
    }

    /** Pairs in pairs, in the first or the second place, as deep as is allowed or one more. */
    private String chain(int wide, int high) {
        StringBuilder text = new StringBuilder("plain ").append(wide).append(' ').append(high);
        boolean first = random.nextBoolean();
        for (int n = 6 + random.nextInt(4); n > 0; n--) {
            String other = "plain " + wide + " " + high;
            text.insert(0, first ? "over " : "over " + other + " ").append(first ? " " + other : "");
        }
        return text.toString();
    }

    private void dueFault(String text) {
        same("fault 0 of " + text, x.fault(0), due.fault(0));
        same("fault 1 of " + text, x.fault(1), due.fault(1));
    }

    private String blanks() {
        return random.nextInt(8) == 0 ? " \n".substring(random.nextInt(2)) + " " : " ";
    }

    /** An expression of a size, mostly; of another or none now and then. */
    private String expression(int depth, int wide, int high) {
        if (random.nextInt(60) == 0) {
            wide += random.nextInt(3) - 1;
        }
        int kind = depth <= 0 ? random.nextInt(2) : 2 + random.nextInt(8);
        String between = blanks();
        switch (kind) {
            case 0:
                return keptOrPlain(wide, high);
            case 2:
            case 3:
            case 4: {
                int i = 1 + random.nextInt(Math.max(1, 2 * wide - 1));
                int j = 1 + random.nextInt(Math.max(1, 2 * high - 1));
                j += (i + j) % 2 == 0 && random.nextInt(20) > 0 ? j > 1 ? -1 : 1 : 0;
                int mirror = random.nextInt(40) == 0 ? 3 : random.nextInt(3);
                return "set " + i + between + j + " " + mirror + " " + expression(depth - 1, wide, high);
            }
            case 5:
                return "turn" + between + expression(depth - 1, high, wide);
            case 6:
                return "flip" + between + expression(depth - 1, wide, high);
            case 7:
                return pair(depth, wide, high, between);
            case 8:
                return row(depth, wide, high, between);
            default:
                return "plain" + between + wide + " " + high;
        }
    }

    private String keptOrPlain(int wide, int high) {
        List<Integer> fitting = new ArrayList<>();
        for (int shelf = 0; shelf < 8; shelf++) {
            if (due.like(shelf, 0) == 1 && due.about(0) == wide && due.about(1) == high) {
                fitting.add(shelf);
            }
        }
        if (random.nextInt(15) == 0) {
            return "kept " + random.nextInt(9);
        }
        return fitting.isEmpty() ? "plain " + wide + " " + high : "kept " + fitting.get(random.nextInt(fitting.size()));
    }

    private String pair(int depth, int wide, int high, String between) {
        int left = random.nextInt(depth);
        if (wide > 1 && random.nextBoolean()) {
            int part = 1 + random.nextInt(wide - 1);
            return "beside" + between + expression(left, part, high) + " " + expression(depth - 1, wide - part, high);
        }
        if (high > 1 && random.nextBoolean()) {
            int part = 1 + random.nextInt(high - 1);
            return "above" + between + expression(depth - 1, wide, part) + " " + expression(left, wide, high - part);
        }
        return "over" + between + expression(left, wide, high) + " " + expression(depth - 1, wide, high);
    }

    private String row(int depth, int wide, int high, String between) {
        int many = 1 + random.nextInt(8);
        if (wide % many != 0) {
            many = random.nextInt(20) == 0 ? many : 1;
        }
        return "row" + between + many + " " + expression(depth - 1, Math.max(1, wide / many), high);
    }

    /** One or two bytes taken out, put in or put in place of others. */
    private String spoilt(String text) {
        StringBuilder b = new StringBuilder(text);
        String signs = "0123456789 \n abcdefilnoprstuvwPLAIN.-\t\r\0/:`{";
        for (int n = 0; n <= random.nextInt(2); n++) {
            int at = random.nextInt(b.length() + 1);
            char sign = random.nextInt(5) == 0 ? (char) random.nextInt(256) : signs.charAt(random.nextInt(signs.length()));
            int kind = random.nextInt(4);
            if (kind == 0 || at == b.length()) {
                b.insert(at, sign);
            } else if (kind == 1) {
                b.deleteCharAt(at);
            } else if (kind == 2) {
                b.setCharAt(at, sign);
            } else {
                b.setLength(at);
            }
        }
        return b.toString();
    }

    /** A line of the drawing that is there, or steps at random, spoilt now and then. */
    private void walksBack() {
        int wide = due.about(0);
        int high = due.about(1);
        List<int[]> points = Made.points(wide, due.walks().get(random.nextInt(due.lines())));
        java.util.Collections.rotate(points, random.nextInt(points.size()));
        if (random.nextBoolean()) {
            java.util.Collections.reverse(points);
        }
        String steps = Made.steps(points);
        if (steps.length() > 200 || random.nextInt(8) == 0) {
            steps = randomSteps();
        }
        if (random.nextInt(3) == 0) {
            int at = random.nextInt(steps.length());
            String other = random.nextInt(4) == 0 ? "e" : "abcd".substring(at % 4, at % 4 + 1);
            steps = random.nextBoolean() ? steps.substring(0, at) : steps.substring(0, at) + other + steps.substring(at + 1);
        }
        tapeBoth(steps);
        int i = random.nextInt(20) == 0 ? number(2 * wide) : points.get(0)[0];
        int j = random.nextInt(20) == 0 ? number(2 * high) : points.get(0)[1];
        int askedWide = random.nextInt(8) == 0 ? number(8) : wide;
        int askedHigh = random.nextInt(8) == 0 ? number(8) : high;
        String call = "back " + askedWide + " " + askedHigh + " " + i + " " + j + " of " + steps;
                same(call, x.back(askedWide, askedHigh, i, j), due.back(askedWide, askedHigh, i, j));
        dueFault(steps);
        same("the tape behind " + call, x.about(7), due.about(7));
        if (due.about(7) == 0 && due.fault(0) >= 0) {
            BACK_FAULTS[due.fault(0)]++;
            walkedBack += due.fault(0) == 0 ? 1 : 0;
        }
    }

    private String randomSteps() {
        StringBuilder steps = new StringBuilder();
        for (int n = 1 + random.nextInt(40); n > 0; n--) {
            steps.append("abcd".charAt(random.nextInt(4)));
        }
        return steps.toString();
    }

    private void tapes() {
        int n = number(due.about(7));
        switch (random.nextInt(5)) {
            case 0: same("end " + n, x.end(n), due.end(n)); break;
            case 1: same("draw", x.draw(), due.draw()); break;
            case 2: {
                int i = number(due.about(0) * 2);
                int j = number(due.about(1) * 2);
                int wide = number(8);
                int high = number(8);
                same("back " + wide + " " + high + " " + i + " " + j, x.back(wide, high, i, j), due.back(wide, high, i, j));
                break;
            }
            default: feedBoth("plain 2 2 abcd".repeat(1 + random.nextInt(5)));
        }
    }

    /** All that can be asked, at a run's end. */
    private void dueWhole() {
        for (int what = -1; what <= 9; what++) {
            same("about " + what, x.about(what), due.about(what));
        }
        for (int i = -1; i <= 17; i++) {
            for (int j = -1; j <= 17; j++) {
                same("mirror " + i + " " + j, x.mirror(i, j), due.mirror(i, j));
            }
        }
        for (int shelf = -1; shelf <= 8; shelf++) {
            for (int what = -1; what <= 2; what++) {
                same("like " + shelf + " " + what, x.like(shelf, what), due.like(shelf, what));
            }
        }
        for (int what = -1; what <= 2; what++) {
            same("joined " + what, x.joined(what), due.joined(what));
            same("fault " + what, x.fault(what), due.fault(what));
            same("change 0 " + what, x.change(0, what), due.change(0, what));
        }
        for (int k = -1; k <= 16; k++) {
            same("row " + k, x.coloured(k, false), due.coloured(k, false));
            same("column " + k, x.coloured(k, true), due.coloured(k, true));
        }
    }
}
