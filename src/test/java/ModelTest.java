import java.util.ArrayList;
import java.util.HashMap;
import java.util.HashSet;
import java.util.List;
import java.util.Map;
import java.util.Random;
import java.util.Set;

/** The class against a second program, with inputs made at random from fixed seeds. */
public final class ModelTest {
    private static int faultsSeen = 0;
    private static int drawnSeen = 0;

    private ModelTest() {
    }

    public static void main(String[] args) {
        linesAsTheModel();
        joinedAsTheTrial();
        joinedOfLarge();
        likeAsTheModel();
        textsAsTheModel();
        walksBack();
        wildCalls();
        Check.due("enough texts were drawn", drawnSeen > 2000, true);
        Check.due("enough texts had faults", faultsSeen > 2000, true);
        Check.finish();
    }

    private static Model randomModel(Random random, int wide, int high) {
        Model model = new Model(wide, high);
        int most = 1 + random.nextInt(8);
        for (int[] p : model.innerPoints()) {
            int drawn = random.nextInt(most + 2);
            model.at[p[0]][p[1]] = drawn > 2 ? 0 : drawn;
        }
        return model;
    }

    private static ThresholdLines made(Model model) {
        ThresholdLines x = new ThresholdLines(model.wide, model.high);
        put(x, model);
        return x;
    }

    private static void put(ThresholdLines x, Model model) {
        for (int[] p : model.innerPoints()) {
            x.set(p[0], p[1], model.at[p[0]][p[1]]);
        }
    }

    private static void dueDrawing(String of, ThresholdLines x, Model model) {
        Check.due("wide of " + of, x.about(0), model.wide);
        Check.due("high of " + of, x.about(1), model.high);
        for (int i = 0; i <= 16; i++) {
            for (int j = 0; j <= 16; j++) {
                Check.due("mirror " + i + " " + j + " of " + of, x.mirror(i, j), model.inner(i, j) ? model.at[i][j] : -1);
            }
        }
    }

    private static void linesAsTheModel() {
        Random random = new Random(1);
        for (int n = 0; n < 640; n++) {
            Model model = randomModel(random, 1 + n % 8, 1 + n / 8 % 8);
            ThresholdLines x = made(model);
            List<List<Integer>> walks = model.walks();
            Check.due("lines", x.lines(), walks.size());
            int[] rows = new int[2 * model.high];
            int[] columns = new int[2 * model.wide];
            for (int l = 0; l < walks.size(); l++) {
                List<Integer> walk = walks.get(l);
                for (int k = 0; k < walk.size(); k++) {
                    int square = walk.get(k);
                    Check.due("walk", x.walk(l, k), square);
                    Check.due("lineOf", x.lineOf(square), l);
                    Check.due("colour", x.colour(square), k % 2);
                    rows[square / (2 * model.wide)] += k % 2;
                    columns[square % (2 * model.wide)] += k % 2;
                }
                Check.due("walk's end", x.walk(l, walk.size()), -1);
                dueLine(x, model, l, walk);
            }
            for (int k = 0; k < rows.length; k++) {
                Check.due("row " + k, x.coloured(k, false), rows[k]);
            }
            for (int k = 0; k < columns.length; k++) {
                Check.due("column " + k, x.coloured(k, true), columns[k]);
            }
        }
    }

    private static void dueLine(ThresholdLines x, Model model, int l, List<Integer> walk) {
        Map<Integer, Integer> held = new HashMap<>();
        Map<Integer, Integer> comes = new HashMap<>();
        for (int k = 0; k < walk.size(); k++) {
            int a = walk.get(k) % (2 * model.wide);
            int b = walk.get(k) / (2 * model.wide);
            held.merge(b / 2 * 8 + a / 2, 1, Integer::sum);
            // Each time it comes to a point, two of its squares touch it.
            int[][] touched = (a + b) % 2 == 0 ? new int[][] {{a + 1, b}, {a, b + 1}} : new int[][] {{a, b}, {a + 1, b + 1}};
            for (int[] p : touched) {
                if (model.inner(p[0], p[1])) {
                    comes.merge(100 * p[0] + p[1], 1, Integer::sum);
                }
            }
        }
        for (int dot = 0; dot < model.wide * model.high; dot++) {
            int dotX = dot % model.wide;
            int dotY = dot / model.wide;
            Check.due("holds", x.holds(l, dotX, dotY), held.getOrDefault(dotY * 8 + dotX, 0));
        }
        Check.due("line 0", x.line(l, 0), walk.size());
        Check.due("line 1", x.line(l, 1), walk.get(0));
        Check.due("line 2", x.line(l, 2), held.values().stream().filter(v -> v == 4).count());
        Check.due("line 3", x.line(l, 3), held.size());
        Check.due("line 4", x.line(l, 4), comes.values().stream().filter(v -> v == 4).count());
    }

    /** All ways of changing unpinned points, for small drawings. */
    private static void joinedAsTheTrial() {
        Random random = new Random(2);
        int[][] sizes = {{1, 1}, {2, 1}, {1, 2}, {2, 2}, {3, 1}, {1, 4}, {3, 2}, {2, 3}, {6, 1}, {1, 7}};
        for (int n = 0; n < 600; n++) {
            int[] size = sizes[n % sizes.length];
            Model model = randomModel(random, size[0], size[1]);
            List<int[]> points = model.innerPoints();
            boolean[] pinned = new boolean[points.size()];
            int pinOneOf = 1 + random.nextInt(6);
            ThresholdLines x = made(model);
            for (int k = 0; k < pinned.length; k++) {
                pinned[k] = random.nextInt(pinOneOf + 1) == 1;
                x.pin(points.get(k)[0], points.get(k)[1], pinned[k]);
            }
            dueTrial(x, model, points, pinned);
        }
    }

    private static void dueTrial(ThresholdLines x, Model model, List<int[]> points, boolean[] pinned) {
        int ways = 1;
        for (int k = 0; k < pinned.length; k++) {
            ways *= 3;
        }
        int[] best = null;
        int bestLines = Integer.MAX_VALUE;
        for (int way = 0; way < ways; way++) {
            Model tried = model.copy();
            List<Integer> changed = new ArrayList<>();
            boolean may = true;
            int digits = way;
            for (int k = 0; k < pinned.length; k++, digits /= 3) {
                int[] p = points.get(k);
                if (digits % 3 != tried.at[p[0]][p[1]]) {
                    changed.add(k);
                    may &= !pinned[k];
                    tried.at[p[0]][p[1]] = digits % 3;
                }
            }
            if (!may) {
                continue;
            }
            int lines = tried.walks().size();
            int[] now = changed.stream().mapToInt(k -> k).toArray();
            if (best == null || lines < bestLines || lines == bestLines && comesFirst(now, best)) {
                best = now;
                bestLines = lines;
            }
        }
        Check.due("joined 0", x.joined(0), bestLines);
        Check.due("joined 1", x.joined(1), best.length);
        for (int k = 0; k < best.length; k++) {
            int[] p = points.get(best[k]);
            Check.due("change i", x.change(k, 0), p[0]);
            Check.due("change j", x.change(k, 1), p[1]);
            Check.due("change then", x.change(k, 2), model.at[p[0]][p[1]] == 0 ? 1 : 0);
            model.at[p[0]][p[1]] = model.at[p[0]][p[1]] == 0 ? 1 : 0;
        }
        Check.due("no more changes", x.change(best.length, 0), -1);
        Check.due("join", x.join(), best.length);
        dueDrawing("joined", x, model);
        Check.due("lines then", x.lines(), bestLines);
        Check.due("model's lines then", model.walks().size(), bestLines);
    }

    private static boolean comesFirst(int[] a, int[] b) {
        if (a.length != b.length) {
            return a.length < b.length;
        }
        for (int k = 0; k < a.length; k++) {
            if (a[k] != b[k]) {
                return a[k] < b[k];
            }
        }
        return false;
    }

    private static void joinedOfLarge() {
        Random random = new Random(3);
        for (int n = 0; n < 300; n++) {
            Model model = randomModel(random, 1 + random.nextInt(8), 1 + random.nextInt(8));
            ThresholdLines x = made(model);
            Check.due("without pins one line", x.joined(0), 1);
            Check.due("each change one fewer", x.joined(1), x.lines() - 1);
            Check.due("join", x.join(), model.walks().size() - 1);
            Check.due("one line", x.lines(), 1);
        }
    }

    private static void likeAsTheModel() {
        Random random = new Random(4);
        for (int n = 0; n < 600; n++) {
            int wide = 1 + random.nextInt(4);
            Model model = randomModel(random, wide, random.nextBoolean() ? wide : 1 + random.nextInt(3));
            if (random.nextBoolean()) {
                // Laid over its own turned or flipped one it is more alike.
                Model other = random.nextBoolean() ? model.flip() : model.turn().turn();
                for (int[] p : model.innerPoints()) {
                    if (model.at[p[0]][p[1]] == 0) {
                        model.at[p[0]][p[1]] = other.at[p[0]][p[1]];
                    }
                }
            }
            ThresholdLines x = made(model);
            x.keep(2);
            Check.due("alike", x.alike(), model.ways(model));
            Model next = random.nextBoolean() ? model.turn() : model.flip();
            if (random.nextBoolean()) {
                int[] p = {1 + random.nextInt(7), 1 + random.nextInt(7)};
                if (next.inner(p[0], p[1])) {
                    next.at[p[0]][p[1]] = random.nextInt(3);
                }
            }
            String text = "plain " + next.wide + " " + next.high;
            Check.tape(x, text);
            x.draw();
            put(x, next);
            Check.due("like 0", x.like(2, 0), model.same(next) ? 1 : 0);
            Check.due("like 1", x.like(2, 1), model.ways(next) > 0 ? 1 : 0);
        }
    }

    private static String randomText(Random random, int depth, int wide, int high) {
        int way = depth <= 0 ? random.nextInt(2) : random.nextInt(12);
        switch (way) {
            case 2:
            case 3:
            case 4: {
                int i = 1 + random.nextInt(Math.max(1, 2 * wide - 1));
                int j = 1 + random.nextInt(Math.max(1, 2 * high - 1));
                if (random.nextInt(8) > 0 && (i + j) % 2 == 0) {
                    j = j > 1 ? j - 1 : j + 1;
                }
                return "set " + i + " " + j + " " + random.nextInt(3) + " " + randomText(random, depth - 1, wide, high);
            }
            case 5:
                return "turn " + randomText(random, depth - 1, high, wide);
            case 6:
                return "flip " + randomText(random, depth - 1, wide, high);
            case 7: {
                int first = Math.max(1, wide / 2);
                return "beside " + randomText(random, depth - 1, first, high) + " "
                    + randomText(random, depth - 1, Math.max(1, wide - first), high);
            }
            case 8: {
                int first = Math.max(1, high / 2);
                return "above " + randomText(random, depth - 1, wide, first) + " "
                    + randomText(random, depth - 1, wide, Math.max(1, high - first));
            }
            case 9:
                return "over " + randomText(random, depth - 1, wide, high) + " " + randomText(random, depth - 1, wide, high);
            case 10: {
                int many = wide % 2 == 0 ? 2 : wide;
                return "row " + many + " " + randomText(random, depth - 1, Math.max(1, wide / many), high);
            }
            case 11:
                return random.nextInt(4) == 0 ? "kept " + random.nextInt(9) : "turn " + randomText(random, depth - 1, high, wide);
            default:
                return "plain " + wide + " " + high;
        }
    }

    private static String spoilt(Random random, String text) {
        StringBuilder b = new StringBuilder(text);
        int times = random.nextInt(3);
        String signs = "0123456789 \nabcdeinlprstuvw.P{`/:" + (char) 0 + (char) 200;
        for (int n = 0; n < times && b.length() > 0; n++) {
            int at = random.nextInt(b.length());
            char sign = signs.charAt(random.nextInt(signs.length()));
            switch (random.nextInt(4)) {
                case 0:
                    b.setCharAt(at, sign);
                    break;
                case 1:
                    b.insert(at, sign);
                    break;
                case 2:
                    b.deleteCharAt(at);
                    break;
                default:
                    b.setLength(at);
                    break;
            }
        }
        if (b.length() > 200) {
            b.setLength(200);
        }
        return b.toString();
    }

    private static void textsAsTheModel() {
        Random random = new Random(5);
        for (int run = 0; run < 400; run++) {
            ThresholdLines x = new ThresholdLines(2, 3);
            Model now = new Model(2, 3);
            Model[] shelves = new Model[8];
            for (int n = 0; n < 20; n++) {
                String text = randomText(random, random.nextInt(10), 1 + random.nextInt(8), 1 + random.nextInt(8));
                text = spoilt(random, text);
                Check.tape(x, text);
                try {
                    Model told = new Model.Text(text, shelves).whole();
                    Check.due("draw of " + text, x.draw(), told.wide * told.high);
                    Check.due("no fault of " + text, x.fault(0), 0);
                    Check.due("no place of " + text, x.fault(1), -1);
                    now = told;
                    drawnSeen++;
                } catch (Model.Fault fault) {
                    Check.due("draw of " + text, x.draw(), -1);
                    Check.due("fault of " + text, x.fault(0), fault.kind);
                    Check.due("place of " + text, x.fault(1), fault.place);
                    faultsSeen++;
                }
                dueDrawing(text, x, now);
                if (random.nextInt(4) == 0) {
                    int shelf = random.nextInt(8);
                    x.keep(shelf);
                    shelves[shelf] = now;
                }
            }
        }
    }

    private static void walksBack() {
        Random random = new Random(6);
        for (int n = 0; n < 3000; n++) {
            Model model = randomModel(random, 1 + random.nextInt(8), 1 + random.nextInt(8));
            List<List<Integer>> walks = model.walks();
            List<Integer> walk = walks.get(random.nextInt(walks.size()));
            if (walk.size() > 200) {
                continue;
            }
            List<int[]> points = pointsOf(model, walk);
            java.util.Collections.rotate(points, random.nextInt(points.size()));
            if (random.nextBoolean()) {
                java.util.Collections.reverse(points);
            }
            StringBuilder steps = new StringBuilder();
            for (int k = 0; k < points.size(); k++) {
                int[] from = points.get(k);
                int[] to = points.get((k + 1) % points.size());
                steps.append(to[0] > from[0] ? to[1] > from[1] ? 'a' : 'd' : to[1] > from[1] ? 'b' : 'c');
            }
            ThresholdLines x = new ThresholdLines(1, 1);
            if (n % 3 == 0) {
                int at = random.nextInt(steps.length());
                steps.setCharAt(at, "abcdexa".charAt(random.nextInt(7)));
                if (random.nextBoolean()) {
                    steps.setLength(random.nextInt(steps.length() + 1));
                }
            }
            dueWalkBack(x, model.wide, model.high, points.get(0), steps.toString());
            if (n % 3 != 0) {
                dueDrawing("walk", x, onlyAt(model, points));
            }
        }
    }

    /** The points of a walk, that ahead of its first square first. */
    private static List<int[]> pointsOf(Model model, List<Integer> walk) {
        int[] at = {walk.get(0) % (2 * model.wide), walk.get(0) / (2 * model.wide)};
        at[1] += (at[0] + at[1]) % 2 == 0 ? 1 : 0;
        List<int[]> points = new ArrayList<>();
        for (int square : walk) {
            points.add(at);
            int a = square % (2 * model.wide);
            int b = square / (2 * model.wide);
            at = new int[] {2 * a + 1 - at[0], 2 * b + 1 - at[1]};
        }
        return points;
    }

    private static Model onlyAt(Model model, List<int[]> points) {
        Model only = new Model(model.wide, model.high);
        for (int[] p : points) {
            only.at[p[0]][p[1]] = model.inner(p[0], p[1]) ? model.at[p[0]][p[1]] : 0;
        }
        return only;
    }

    private static void dueWalkBack(ThresholdLines x, int wide, int high, int[] first, String steps) {
        int kind = 0;
        int place = -1;
        int i = first[0];
        int j = first[1];
        Model size = new Model(wide, high);
        Set<String> gone = new HashSet<>();
        Set<String> met = new HashSet<>();
        for (int k = 0; k < steps.length() && kind == 0; k++) {
            int step = "abcd".indexOf(steps.charAt(k));
            int toI = i + (step == 0 || step == 3 ? 1 : -1);
            int toJ = j + (step == 0 || step == 1 ? 1 : -1);
            if (step < 0) {
                kind = 1;
            } else if (toI < 0 || toJ < 0 || toI > 2 * wide || toJ > 2 * high) {
                kind = 2;
            } else if (!gone.add(i + toI + " " + (j + toJ))) {
                kind = 3;
            }
            place = kind == 0 ? -1 : k;
            i = toI;
            j = toJ;
            if (size.inner(i, j)) {
                met.add(i + " " + j);
            }
        }
        if (kind == 0 && (steps.isEmpty() || i != first[0] || j != first[1])) {
            kind = 4;
            place = steps.length();
        }
        Check.tape(x, steps);
        Check.due("back of " + steps, x.back(wide, high, first[0], first[1]), kind == 0 ? met.size() : -1);
        Check.due("fault of " + steps, x.fault(0), kind);
        Check.due("place of " + steps, x.fault(1), place);
    }

    /** Any arguments in any state: nothing may be thrown. */
    private static void wildCalls() {
        Random random = new Random(7);
        for (int run = 0; run < 300; run++) {
            ThresholdLines x = new ThresholdLines(wild(random), wild(random));
            for (int n = 0; n < 512; n++) {
                int which = random.nextInt(23);
                try {
                    wildCall(x, which, random);
                } catch (RuntimeException thrown) {
                    Check.due("call " + which + " threw " + thrown, true, false);
                }
            }
        }
    }

    private static int wild(Random random) {
        int[] far = {Integer.MIN_VALUE, Integer.MAX_VALUE, -1, 256, 255, 1 << 30, -(1 << 30)};
        return random.nextInt(5) == 0 ? far[random.nextInt(far.length)] : random.nextInt(17);
    }

    private static int fourSteps(Random random) {
        int bytes = 0;
        for (int n = 0; n < 4; n++) {
            bytes = bytes << 8 | "abcdplain 12".charAt(random.nextInt(random.nextBoolean() ? 4 : 12));
        }
        return bytes;
    }

    private static int wildCall(ThresholdLines x, int which, Random random) {
        int a = wild(random);
        int b = wild(random);
        int c = wild(random);
        switch (which) {
            case 0: return x.set(a, b, c % 3) ? 1 : 0;
            case 1: return x.mirror(a, b);
            case 2: return x.pin(a, b, random.nextBoolean()) ? 1 : 0;
            case 3: return x.lines();
            case 4: return x.lineOf(a);
            case 5: return x.line(a, b);
            case 6: return x.walk(a, b);
            case 7: return x.holds(a, b, c);
            case 8: return x.colour(a);
            case 9: return x.coloured(a, random.nextBoolean());
            case 10: return x.joined(a);
            case 11: return x.change(a, b);
            case 12: return x.join();
            case 13: return x.feed(fourSteps(random), fourSteps(random), a, b, c);
            case 14: return x.end(a);
            case 15: return x.draw();
            case 16: return x.back(a, b, c, wild(random));
            case 17: return x.fault(a);
            case 18: return x.keep(a) ? 1 : 0;
            case 19: return x.like(a, b);
            case 20: return x.alike();
            case 21: return x.about(a);
            default:
                Check.tape(x, randomText(random, 3, 1 + random.nextInt(8), 1 + random.nextInt(8)));
                return x.draw();
        }
    }
}
