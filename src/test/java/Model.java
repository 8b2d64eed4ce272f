import java.util.ArrayList;
import java.util.Arrays;
import java.util.List;
import java.util.TreeSet;

/** A drawing and what the document says of it, written a second time, slowly and another way. */
final class Model {
    final int wide;
    final int high;
    final int[][] at = new int[17][17];

    Model(int wide, int high) {
        this.wide = wide;
        this.high = high;
    }

    Model copy() {
        Model other = new Model(wide, high);
        for (int i = 0; i < 17; i++) {
            other.at[i] = at[i].clone();
        }
        return other;
    }

    boolean inner(int i, int j) {
        return i > 0 && j > 0 && i < 2 * wide && j < 2 * high && (i + j) % 2 != 0;
    }

    List<int[]> innerPoints() {
        List<int[]> points = new ArrayList<>();
        for (int j = 0; j <= 2 * high; j++) {
            for (int i = 0; i <= 2 * wide; i++) {
                if (inner(i, j)) {
                    points.add(new int[] {i, j});
                }
            }
        }
        return points;
    }

    boolean same(Model other) {
        return wide == other.wide && high == other.high && Arrays.deepEquals(at, other.at);
    }

    Model turn() {
        Model to = new Model(high, wide);
        for (int[] p : innerPoints()) {
            to.at[2 * high - p[1]][p[0]] = new int[] {0, 2, 1}[at[p[0]][p[1]]];
        }
        return to;
    }

    Model flip() {
        Model to = new Model(wide, high);
        for (int[] p : innerPoints()) {
            to.at[2 * wide - p[0]][p[1]] = at[p[0]][p[1]];
        }
        return to;
    }

    int ways(Model to) {
        int ways = 0;
        Model turned = this;
        for (int turns = 0; turns < 4; turns++) {
            ways += turned.same(to) ? 1 : 0;
            ways += turned.flip().same(to) ? 1 : 0;
            turned = turned.turn();
        }
        return ways;
    }

    /** The two points of a square, the left one first. */
    private static int[][] ends(int a, int b) {
        return (a + b) % 2 == 0 ? new int[][] {{a, b + 1}, {a + 1, b}} : new int[][] {{a, b}, {a + 1, b + 1}};
    }

    /** The square that a line goes on through, if it came to a point through another. */
    private int[] partner(int a, int b, int i, int j) {
        boolean left = a < i;
        boolean upper = b < j;
        boolean nextLeft = !left;
        boolean nextUpper = !upper;
        if (i == 0 || i == 2 * wide || at[i][j] == 1) {
            nextLeft = left;
        }
        if (j == 0 || j == 2 * high || at[i][j] == 2) {
            nextUpper = upper;
        }
        return new int[] {nextLeft ? i - 1 : i, nextUpper ? j - 1 : j};
    }

    /** All walks, by lines. */
    List<List<Integer>> walks() {
        List<List<Integer>> walks = new ArrayList<>();
        TreeSet<Integer> left = new TreeSet<>();
        for (int square = 0; square < 4 * wide * high; square++) {
            left.add(square);
        }
        while (!left.isEmpty()) {
            int least = left.first();
            List<Integer> walk = new ArrayList<>();
            int[] square = {least % (2 * wide), least / (2 * wide)};
            int[] to = ends(square[0], square[1])[1];
            do {
                int number = 2 * wide * square[1] + square[0];
                if (!left.remove(number)) {
                    throw new IllegalStateException("gone through twice");
                }
                walk.add(number);
                square = partner(square[0], square[1], to[0], to[1]);
                int[][] ends = ends(square[0], square[1]);
                to = Arrays.equals(ends[0], to) ? ends[1] : ends[0];
            } while (2 * wide * square[1] + square[0] != least);
            walks.add(walk);
        }
        return walks;
    }

    /** What the text of a tape tells. */
    static final class Fault extends Exception {
        private static final long serialVersionUID = 1L;
        final int kind;
        final int place;

        Fault(int kind, int place) {
            super("fault " + kind + " at " + place);
            this.kind = kind;
            this.place = place;
        }
    }

    /** A second reader of texts: all tokens first, then the tree. */
    static final class Text {
        private final List<String> tokens = new ArrayList<>();
        private final List<Integer> places = new ArrayList<>();
        private final Model[] shelves;
        private int next = 0;

        Text(String text, Model[] shelves) {
            this.shelves = shelves;
            int k = 0;
            while (k < text.length()) {
                int from = k;
                char c = text.charAt(k);
                k++;
                if (c == ' ' || c == '\n') {
                    continue;
                }
                while (k < text.length() && kind(c) > 0 && kind(text.charAt(k)) == kind(c)) {
                    k++;
                }
                tokens.add(text.substring(from, k));
                places.add(from);
            }
            tokens.add("");
            places.add(text.length());
        }

        private static int kind(char c) {
            return c >= 'a' && c <= 'z' ? 1 : c >= '0' && c <= '9' ? 2 : 0;
        }

        Model whole() throws Fault {
            Model told = expression(0);
            if (next < tokens.size() - 1) {
                throw new Fault(1, places.get(next));
            }
            return told;
        }

        private int number(int least, int most) throws Fault {
            String token = tokens.get(next);
            int place = places.get(next);
            if (token.isEmpty() || kind(token.charAt(0)) != 2) {
                throw new Fault(1, place);
            }
            java.math.BigInteger value = new java.math.BigInteger(token);
            if (value.bitLength() > 20 || value.intValue() < least || value.intValue() > most) {
                throw new Fault(2, place);
            }
            next++;
            return value.intValue();
        }

        private Model expression(int open) throws Fault {
            String word = tokens.get(next);
            int place = places.get(next);
            boolean leaf = word.equals("plain") || word.equals("kept");
            if (!leaf && !List.of("set", "turn", "flip", "beside", "above", "over", "row").contains(word)) {
                throw new Fault(1, place);
            }
            if (!leaf && open == 8) {
                throw new Fault(3, place);
            }
            next++;
            switch (word) {
                case "plain": {
                    int wide = number(1, 8);
                    return new Model(wide, number(1, 8));
                }
                case "kept": {
                    int shelf = number(0, 7);
                    if (shelves[shelf] == null) {
                        throw new Fault(2, places.get(next - 1));
                    }
                    return shelves[shelf].copy();
                }
                case "set": {
                    int i = number(0, 16);
                    int j = number(0, 16);
                    int mirror = number(0, 2);
                    Model inside = expression(open + 1).copy();
                    if (!inside.inner(i, j)) {
                        throw new Fault(4, place);
                    }
                    inside.at[i][j] = mirror;
                    return inside;
                }
                case "turn":
                    return expression(open + 1).turn();
                case "flip":
                    return expression(open + 1).flip();
                case "row": {
                    int many = number(1, 8);
                    Model one = expression(open + 1);
                    Model all = one;
                    for (int n = 1; n < many; n++) {
                        all = beside(all, one, place);
                    }
                    return all;
                }
                default: {
                    Model first = expression(open + 1);
                    Model second = expression(open + 1);
                    if (word.equals("beside")) {
                        return beside(first, second, place);
                    }
                    return word.equals("above") ? above(first, second, place) : over(first, second, place);
                }
            }
        }

        private static Model beside(Model first, Model second, int place) throws Fault {
            if (first.high != second.high || first.wide + second.wide > 8) {
                throw new Fault(4, place);
            }
            Model both = new Model(first.wide + second.wide, first.high);
            for (int[] p : both.innerPoints()) {
                int i = p[0];
                if (i < 2 * first.wide) {
                    both.at[i][p[1]] = first.at[i][p[1]];
                } else if (i > 2 * first.wide) {
                    both.at[i][p[1]] = second.at[i - 2 * first.wide][p[1]];
                }
            }
            return both;
        }

        private static Model above(Model first, Model second, int place) throws Fault {
            if (first.wide != second.wide || first.high + second.high > 8) {
                throw new Fault(4, place);
            }
            // Turned to the left, above is beside with the first one to the left.
            Model a = first.turn().turn().turn();
            Model b = second.turn().turn().turn();
            return beside(a, b, place).turn();
        }

        private static Model over(Model first, Model second, int place) throws Fault {
            if (first.wide != second.wide || first.high != second.high) {
                throw new Fault(4, place);
            }
            Model both = first.copy();
            for (int[] p : both.innerPoints()) {
                if (second.at[p[0]][p[1]] != 0) {
                    both.at[p[0]][p[1]] = second.at[p[0]][p[1]];
                }
            }
            return both;
        }
    }
}
