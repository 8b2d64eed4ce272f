import java.util.ArrayDeque;
import java.util.ArrayList;
import java.util.Arrays;
import java.util.Deque;
import java.util.HashMap;
import java.util.HashSet;
import java.util.List;
import java.util.Map;
import java.util.Set;
import java.util.TreeMap;
import java.util.TreeSet;
import java.util.regex.Matcher;
import java.util.regex.Pattern;

/** The whole class once more, from the document alone: nothing is remembered between calls but what it names. */
final class Second {
    private static final List<String> OPENING = List.of("set", "turn", "flip", "beside", "above", "over", "row");

    private Sheet sheet;
    private final Set<Point> pinned = new HashSet<>();
    private final Map<Integer, Sheet> shelves = new HashMap<>();
    private final StringBuilder tape = new StringBuilder();
    private int[] latest = null;

    Second(int wide, int high) {
        sheet = new Sheet(wide < 1 ? 1 : wide > 8 ? 8 : wide, high < 1 ? 1 : high > 8 ? 8 : high, new TreeMap<>());
    }

    /** By j, then i. */
    record Point(int i, int j) implements Comparable<Point> {
        @Override
        public int compareTo(Point other) {
            return j != other.j ? Integer.compare(j, other.j) : Integer.compare(i, other.i);
        }
    }

    /** Mirrors 1 and 2 alone are in the map, so equal sheets are equal drawings. */
    record Sheet(int wide, int high, TreeMap<Point, Integer> mirrors) {
        boolean hasPoint(int i, int j) {
            return i >= 0 && j >= 0 && i <= 2 * wide && j <= 2 * high && i % 2 != j % 2;
        }

        boolean hasInner(int i, int j) {
            return hasPoint(i, j) && i != 0 && j != 0 && i != 2 * wide && j != 2 * high;
        }

        int at(Point p) {
            return mirrors.getOrDefault(p, 0);
        }

        Sheet with(Point p, int mirror) {
            TreeMap<Point, Integer> changed = new TreeMap<>(mirrors);
            changed.remove(p);
            if (mirror != 0) {
                changed.put(p, mirror);
            }
            return new Sheet(wide, high, changed);
        }

        Sheet turned() {
            TreeMap<Point, Integer> moved = new TreeMap<>();
            mirrors.forEach((p, mirror) -> moved.put(new Point(2 * high - p.j, p.i), 3 - mirror));
            return new Sheet(high, wide, moved);
        }

        Sheet flipped() {
            TreeMap<Point, Integer> moved = new TreeMap<>();
            mirrors.forEach((p, mirror) -> moved.put(new Point(2 * wide - p.i, p.j), mirror));
            return new Sheet(wide, high, moved);
        }

        /** Another one's mirrors come over these, shifted. */
        Sheet grown(int newWide, int newHigh, Sheet other, int right, int down) {
            TreeMap<Point, Integer> all = new TreeMap<>(mirrors);
            other.mirrors.forEach((p, mirror) -> all.put(new Point(p.i + right, p.j + down), mirror));
            return new Sheet(newWide, newHigh, all);
        }

        List<Sheet> eight() {
            List<Sheet> all = new ArrayList<>();
            Sheet turned = this;
            for (int turns = 0; turns < 4; turns++) {
                all.add(turned);
                all.add(turned.flipped());
                turned = turned.turned();
            }
            return all;
        }

        List<Point> innerPoints() {
            TreeSet<Point> points = new TreeSet<>();
            for (int i = 0; i <= 2 * wide; i++) {
                for (int j = 0; j <= 2 * high; j++) {
                    if (hasInner(i, j)) {
                        points.add(new Point(i, j));
                    }
                }
            }
            return new ArrayList<>(points);
        }

        /** The walks, each found by going on from point to point until the first step would be made again. */
        List<List<Integer>> walks() {
            List<List<Integer>> all = new ArrayList<>();
            Set<Integer> gone = new HashSet<>();
            for (int square = 0; square < 4 * wide * high; square++) {
                if (!gone.contains(square)) {
                    List<Integer> walk = walkFrom(square);
                    gone.addAll(walk);
                    all.add(walk);
                }
            }
            return all;
        }

        private List<Integer> walkFrom(int square) {
            int a = square % (2 * wide);
            int b = square / (2 * wide);
            boolean leftUpperIsPoint = hasPoint(a, b);
            int firstI = a;
            int firstJ = leftUpperIsPoint ? b : b + 1;
            int firstDown = leftUpperIsPoint ? 1 : -1;
            List<Integer> walk = new ArrayList<>();
            int i = firstI;
            int j = firstJ;
            int right = 1;
            int down = firstDown;
            do {
                walk.add(2 * wide * ((2 * j + down - 1) / 2) + (2 * i + right - 1) / 2);
                i += right;
                j += down;
                int mirror = at(new Point(i, j));
                right = i == 0 || i == 2 * wide || mirror == 1 ? -right : right;
                down = j == 0 || j == 2 * high || mirror == 2 ? -down : down;
            } while (i != firstI || j != firstJ || right != 1 || down != firstDown);
            return walk;
        }
    }

    boolean set(int i, int j, int mirror) {
        if (!sheet.hasInner(i, j) || mirror < 0 || mirror > 2) {
            return false;
        }
        sheet = sheet.with(new Point(i, j), mirror);
        return true;
    }

    int mirror(int i, int j) {
        return sheet.hasInner(i, j) ? sheet.at(new Point(i, j)) : -1;
    }

    boolean pin(int i, int j, boolean it) {
        if (!sheet.hasInner(i, j)) {
            return false;
        }
        if (it) {
            pinned.add(new Point(i, j));
        } else {
            pinned.remove(new Point(i, j));
        }
        return true;
    }

    int lines() {
        return walks().size();
    }

    List<List<Integer>> walks() {
        return sheet.walks();
    }

    int lineOf(int square) {
        List<List<Integer>> walks = sheet.walks();
        for (int l = 0; l < walks.size(); l++) {
            if (walks.get(l).contains(square)) {
                return l;
            }
        }
        return -1;
    }

    int line(int l, int what) {
        List<List<Integer>> walks = sheet.walks();
        if (l < 0 || l >= walks.size() || what < 0 || what > 4) {
            return -1;
        }
        List<Integer> walk = walks.get(l);
        if (what < 2) {
            return what == 0 ? walk.size() : walk.stream().min(Integer::compare).get();
        }
        if (what == 4) {
            return (int) comings(walk).values().stream().filter(times -> times == 2).count();
        }
        int dots = 0;
        for (int dot = 0; dot < sheet.wide() * sheet.high(); dot++) {
            int held = holds(l, dot % sheet.wide(), dot / sheet.wide());
            dots += held == 4 || what == 3 && held > 0 ? 1 : 0;
        }
        return dots;
    }

    /** How often a walk comes to each inner point: it is the corner that a square shares with the next one. */
    private Map<Point, Integer> comings(List<Integer> walk) {
        Map<Point, Integer> times = new HashMap<>();
        Set<Point> ends = new HashSet<>();
        for (int k = 0; k < walk.size(); k++) {
            ends.clear();
            ends.addAll(pointsOf(walk.get(k)));
            for (Point p : pointsOf(walk.get((k + 1) % walk.size()))) {
                if (ends.contains(p) && sheet.hasInner(p.i(), p.j())) {
                    times.merge(p, 1, Integer::sum);
                }
            }
        }
        return times;
    }

    private List<Point> pointsOf(int square) {
        int a = square % (2 * sheet.wide());
        int b = square / (2 * sheet.wide());
        List<Point> points = new ArrayList<>();
        for (int corner = 0; corner < 4; corner++) {
            if (sheet.hasPoint(a + corner % 2, b + corner / 2)) {
                points.add(new Point(a + corner % 2, b + corner / 2));
            }
        }
        return points;
    }

    int walk(int l, int k) {
        List<List<Integer>> walks = sheet.walks();
        return l >= 0 && l < walks.size() && k >= 0 && k < walks.get(l).size() ? walks.get(l).get(k) : -1;
    }

    int holds(int l, int x, int y) {
        List<List<Integer>> walks = sheet.walks();
        if (l < 0 || l >= walks.size() || x < 0 || y < 0 || x >= sheet.wide() || y >= sheet.high()) {
            return -1;
        }
        return (int) walks.get(l).stream()
            .filter(s -> s % (2 * sheet.wide()) / 2 == x && s / (2 * sheet.wide()) / 2 == y).count();
    }

    int colour(int square) {
        int l = lineOf(square);
        return l < 0 ? -1 : sheet.walks().get(l).indexOf(square) % 2;
    }

    int coloured(int k, boolean column) {
        if (k < 0 || k >= 2 * (column ? sheet.wide() : sheet.high())) {
            return -1;
        }
        int many = 0;
        for (List<Integer> walk : sheet.walks()) {
            for (int place = 1; place < walk.size(); place += 2) {
                int square = walk.get(place);
                many += (column ? square % (2 * sheet.wide()) : square / (2 * sheet.wide())) == k ? 1 : 0;
            }
        }
        return many;
    }

    /**
     * The points of JOINED's changes. A change makes one line fewer at most, so with the fewest changes each
     * makes one fewer; a point is taken if, changed behind those taken before, it does.
     */
    private List<Point> changes() {
        List<Point> taken = new ArrayList<>();
        Sheet now = sheet;
        int lines = now.walks().size();
        for (Point p : sheet.innerPoints()) {
            if (!pinned.contains(p) && lines > 1) {
                Sheet then = now.with(p, then(p));
                if (then.walks().size() < lines) {
                    now = then;
                    lines--;
                    taken.add(p);
                }
            }
        }
        return taken;
    }

    private int then(Point p) {
        return sheet.at(p) == 0 ? 1 : 0;
    }

    int joined(int what) {
        int many = what == 0 || what == 1 ? changes().size() : 0;
        return what == 0 ? lines() - many : what == 1 ? many : -1;
    }

    int change(int k, int what) {
        List<Point> changes = what < 0 || what > 2 || k < 0 ? List.of() : changes();
        if (k < 0 || k >= changes.size()) {
            return -1;
        }
        Point p = changes.get(k);
        return what == 0 ? p.i() : what == 1 ? p.j() : then(p);
    }

    int join() {
        List<Point> changes = changes();
        for (Point p : changes) {
            sheet = sheet.with(p, then(p));
        }
        return changes.size();
    }

    int feed(int a, int b, int c, int d, int e) {
        if (tape.length() > 180) {
            return -1;
        }
        for (int word : new int[] {a, b, c, d, e}) {
            for (byte one : java.nio.ByteBuffer.allocate(4).putInt(word).array()) {
                tape.append((char) Byte.toUnsignedInt(one));
            }
        }
        return tape.length();
    }

    int end(int n) {
        if (n < 0 || n > tape.length()) {
            return -1;
        }
        tape.setLength(n);
        return n;
    }

    private String takeTape() {
        String all = tape.toString();
        tape.setLength(0);
        return all;
    }

    private int fail(int kind, int place) {
        latest = new int[] {kind, place};
        return -1;
    }

    private void replace(Sheet by) {
        latest = new int[] {0, -1};
        pinned.clear();
        sheet = by;
    }

    /** A word with what it has so far, and what it waits for. */
    private static final class Open {
        final String word;
        final int place;
        final List<Integer> numbers = new ArrayList<>();
        final List<Sheet> parts = new ArrayList<>();

        Open(String word, int place) {
            this.word = word;
            this.place = place;
        }

        int numbersDue() {
            return switch (word) {
                case "plain" -> 2;
                case "set" -> 3;
                case "row", "kept" -> 1;
                default -> 0;
            };
        }

        int partsDue() {
            return switch (word) {
                case "plain", "kept" -> 0;
                case "beside", "above", "over" -> 2;
                default -> 1;
            };
        }

        /** Least and most of the number that comes next. */
        int[] bounds() {
            return switch (word) {
                case "set" -> numbers.size() < 2 ? new int[] {0, 16} : new int[] {0, 2};
                case "kept" -> new int[] {0, 7};
                default -> new int[] {1, 8};
            };
        }
    }

    /** Reads without recursion: the open words lie on a pile. */
    int draw() {
        String text = takeTape();
        Matcher tokens = Pattern.compile("[a-z]+|[0-9]+|[^ \n]", Pattern.DOTALL).matcher(text);
        Deque<Open> pile = new ArrayDeque<>();
        Sheet whole = null;
        while (tokens.find()) {
            String token = tokens.group();
            int place = tokens.start();
            Open top = pile.peek();
            if (whole != null) {
                return fail(1, place);
            } else if (top != null && top.numbers.size() < top.numbersDue()) {
                int kind = takeNumber(top, token);
                if (kind != 0) {
                    return fail(kind, place);
                }
            } else if (OPENING.contains(token)) {
                if (pile.size() == 8) {
                    return fail(3, place);
                }
                pile.push(new Open(token, place));
            } else if (token.equals("plain") || token.equals("kept")) {
                pile.push(new Open(token, place));
            } else {
                return fail(1, place);
            }
            while (!pile.isEmpty() && isWhole(pile.peek())) {
                Open done = pile.pop();
                Sheet told = told(done);
                if (told == null) {
                    return fail(4, done.place);
                }
                if (pile.isEmpty()) {
                    whole = told;
                } else {
                    pile.peek().parts.add(told);
                }
            }
        }
        if (whole == null) {
            return fail(1, text.length());
        }
        replace(whole);
        return whole.wide() * whole.high();
    }

    /** The kind of fault, 0 without. */
    private int takeNumber(Open top, String token) {
        if (!token.matches("[0-9]+")) {
            return 1;
        }
        String plain = token.replaceFirst("^0+(?=.)", "");
        int[] bounds = top.bounds();
        int number = plain.length() > 3 ? 1000 : Integer.parseInt(plain);
        if (number < bounds[0] || number > bounds[1] || top.word.equals("kept") && !shelves.containsKey(number)) {
            return 2;
        }
        top.numbers.add(number);
        return 0;
    }

    private static boolean isWhole(Open open) {
        return open.numbers.size() == open.numbersDue() && open.parts.size() == open.partsDue();
    }

    /** Null if it can't be. */
    private Sheet told(Open done) {
        List<Integer> n = done.numbers;
        Sheet first = done.parts.isEmpty() ? null : done.parts.get(0);
        Sheet second = done.parts.size() < 2 ? null : done.parts.get(1);
        switch (done.word) {
            case "plain":
                return new Sheet(n.get(0), n.get(1), new TreeMap<>());
            case "kept":
                return shelves.get(n.get(0));
            case "set":
                return first.hasInner(n.get(0), n.get(1)) ? first.with(new Point(n.get(0), n.get(1)), n.get(2)) : null;
            case "turn":
                return first.turned();
            case "flip":
                return first.flipped();
            case "row": {
                Sheet all = first;
                for (int copies = 1; copies < n.get(0); copies++) {
                    all = all.grown(all.wide() + first.wide(), all.high(), first, 2 * all.wide(), 0);
                }
                return all.wide() <= 8 ? all : null;
            }
            case "beside":
                return first.high() != second.high() || first.wide() + second.wide() > 8 ? null
                    : first.grown(first.wide() + second.wide(), first.high(), second, 2 * first.wide(), 0);
            case "above":
                return first.wide() != second.wide() || first.high() + second.high() > 8 ? null
                    : first.grown(first.wide(), first.high() + second.high(), second, 0, 2 * first.high());
            default:
                return first.wide() != second.wide() || first.high() != second.high() ? null
                    : first.grown(first.wide(), first.high(), second, 0, 0);
        }
    }

    int back(int wide, int high, int i, int j) {
        if (wide < 1 || wide > 8 || high < 1 || high > 8) {
            return -1;
        }
        Sheet told = new Sheet(wide, high, new TreeMap<>());
        if (!told.hasPoint(i, j)) {
            return -1;
        }
        String steps = takeTape();
        List<Point> points = new ArrayList<>(List.of(new Point(i, j)));
        Set<List<Integer>> gone = new HashSet<>();
        for (int k = 0; k < steps.length(); k++) {
            int way = "abcd".indexOf(steps.charAt(k));
            if (way < 0) {
                return fail(1, k);
            }
            Point from = points.get(k);
            Point to = new Point(from.i() + new int[] {1, -1, -1, 1}[way], from.j() + new int[] {1, 1, -1, -1}[way]);
            if (!told.hasPoint(to.i(), to.j())) {
                return fail(2, k);
            }
            // A square's middle, doubled, tells it.
            if (!gone.add(Arrays.asList(from.i() + to.i(), from.j() + to.j()))) {
                return fail(3, k);
            }
            points.add(to);
        }
        if (steps.isEmpty() || !points.get(steps.length()).equals(points.get(0))) {
            return fail(4, steps.length());
        }
        Set<Point> met = new HashSet<>();
        for (int k = 0; k < steps.length(); k++) {
            Point before = points.get(k);
            Point at = points.get(k + 1);
            Point behind = k + 2 < points.size() ? points.get(k + 2) : points.get(1);
            if (told.hasInner(at.i(), at.j())) {
                met.add(at);
                told = told.with(at, before.i() == behind.i() ? 1 : before.j() == behind.j() ? 2 : 0);
            }
        }
        replace(told);
        return met.size();
    }

    int fault(int what) {
        return latest == null || what < 0 || what > 1 ? -1 : latest[what];
    }

    boolean keep(int shelf) {
        if (shelf < 0 || shelf > 7) {
            return false;
        }
        shelves.put(shelf, sheet);
        return true;
    }

    int like(int shelf, int what) {
        Sheet kept = shelves.get(shelf);
        if (kept == null || what < 0 || what > 1) {
            return -1;
        }
        return (what == 0 ? kept.equals(sheet) : kept.eight().contains(sheet)) ? 1 : 0;
    }

    int alike() {
        return (int) sheet.eight().stream().filter(sheet::equals).count();
    }

    int about(int what) {
        return switch (what) {
            case 0 -> sheet.wide();
            case 1 -> sheet.high();
            case 2 -> sheet.innerPoints().size();
            case 3, 4 -> (int) sheet.mirrors().values().stream().filter(mirror -> mirror == what - 2).count();
            case 5 -> pinned.size();
            case 6 -> shelves.size();
            case 7 -> tape.length();
            case 8 -> 4 * sheet.wide() * sheet.high();
            default -> -1;
        };
    }
}
