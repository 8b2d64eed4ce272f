import java.io.IOException;
import java.nio.file.Files;
import java.nio.file.Path;
import java.util.ArrayList;
import java.util.List;
import java.util.regex.Matcher;
import java.util.regex.Pattern;

/** The document's sentences: each test of one is told with the words that it stands for. */
final class Doc {
    /** "Terms" is section 0, each promise the section of its number. */
    private static final int SECTIONS = 24;
    private static final String[] TEXTS = new String[SECTIONS];
    private static final boolean[][] QUOTED = new boolean[SECTIONS][];
    private static boolean isThere = false;

    private Doc() {
    }

    static void open() throws IOException {
        Path file = Path.of("../shared/DOC.md");
        isThere = Files.isReadable(file);
        if (!isThere) {
            System.out.println("no " + file + ": the words of sentences are not looked up");
            return;
        }
        String whole = Files.readString(file).replaceAll("```(text)?", " ").replaceAll("==== [IV]+\\.", " ");
        for (int n = 0; n < SECTIONS; n++) {
            String head = n == 0 ? "## Terms" : "## Promise " + n + ":[^\n]*\\s*`[^`]*`:";
            Matcher section = Pattern.compile("(?s)" + head + "(.*?)\n## ").matcher(whole);
            boolean found = section.find();
            Check.due("the document has section " + n, found, true);
            TEXTS[n] = found ? section.group(1).replaceAll("\\s+", " ") : "";
            QUOTED[n] = new boolean[TEXTS[n].length()];
        }
    }

    /** A test of its own for words of a section. */
    static void says(int section, String words, Runnable test) {
        quote(section, words);
        int asked = Check.asked();
        int wrong = Check.wrong();
        test.run();
        Check.due("something is asked of: " + words, Check.asked() > asked, true);
        if (Check.wrong() > wrong) {
            System.out.println("  so this does not hold (" + (section == 0 ? "Terms" : "Promise " + section) + "): " + words);
        }
    }

    private static void quote(int section, String words) {
        if (!isThere) {
            return;
        }
        int from = TEXTS[section].indexOf(words);
        Check.due("section " + section + " says: " + words, from >= 0, true);
        for (int n = 0; from >= 0 && n < words.length(); n++) {
            QUOTED[section][from + n] = true;
        }
    }

    /** No words of the document may be left that no test stands for. */
    static void allQuoted() {
        for (int n = 0; isThere && n < SECTIONS; n++) {
            StringBuilder left = new StringBuilder();
            for (int k = 0; k < TEXTS[n].length(); k++) {
                left.append(QUOTED[n][k] ? ' ' : TEXTS[n].charAt(k));
            }
            List<String> words = new ArrayList<>();
            for (String word : left.toString().trim().split("\\s+")) {
                if (word.matches(".*[A-Za-z0-9].*")) {
                    words.add(word);
                }
            }
            Check.due("words of section " + n + " without a test: " + words, words.size(), 0);
        }
    }
}
