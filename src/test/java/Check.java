/** Counts and prints answers that are not the ones due. */
final class Check {
    private static int wrong = 0;
    private static int asked = 0;

    private Check() {
    }

    static void due(String call, long got, long want) {
        asked++;
        if (got != want) {
            wrong++;
            if (wrong <= 50) {
                System.out.println(call + " answered " + got + ", due is " + want);
            }
        }
    }

    static void due(String call, boolean got, boolean want) {
        due(call, got ? 1 : 0, want ? 1 : 0);
    }

    static int asked() {
        return asked;
    }

    static int wrong() {
        return wrong;
    }

    /** Feeds a text whole, whatever its length up to 200 (and characters 0 to 255). */
    static void tape(ThresholdLines x, String text) {
        x.end(0);
        int length = text.length();
        for (int from = 0; from < length; from += 20) {
            // The last piece may not find room for all its twenty bytes only when length is above 200.
            int[] words = new int[5];
            for (int n = 0; n < 20; n++) {
                int sign = from + n < length ? text.charAt(from + n) : 0;
                words[n / 4] |= (sign & 255) << (24 - 8 * (n % 4));
            }
            x.feed(words[0], words[1], words[2], words[3], words[4]);
        }
        x.end(length);
    }

    static void finish() {
        System.out.println(wrong == 0 ? asked + " answers, all as due" : wrong + " answers of " + asked + " are not as due");
        if (wrong != 0) {
            System.exit(1);
        }
    }
}
