import java.io.IOException;
import java.lang.reflect.InvocationTargetException;
import java.lang.reflect.Method;
import java.lang.reflect.Modifier;
import java.nio.file.DirectoryStream;
import java.nio.file.Files;
import java.nio.file.Path;
import java.util.regex.Matcher;
import java.util.regex.Pattern;

/** README.md's examples answer what it says, and it names every call and every test. Run from the project's root. */
public final class ReadmeTest {
    private static final Pattern ROW = Pattern.compile("x\\.(\\w+)\\(([^)]*)\\); +// (-?\\w+).*");

    private ReadmeTest() {
    }

    public static void main(String[] args) throws IOException, ReflectiveOperationException {
        String readme = Files.readString(Path.of("README.md"));
        examples(readme);
        for (Method m : ThresholdLines.class.getDeclaredMethods()) {
            if (Modifier.isPublic(m.getModifiers())) {
                Check.due("README.md names " + m.getName(), readme.contains("`" + m.getName() + "`"), true);
            }
        }
        try (DirectoryStream<Path> files = Files.newDirectoryStream(Path.of("src/test/java"), "*Test.java")) {
            for (Path file : files) {
                String name = file.getFileName().toString().replace(".java", "");
                Check.due("README.md names " + name, readme.contains("- `" + name + "`:"), true);
            }
        }
        Check.finish();
    }

    /** All blocks of Java are one run on one object. */
    private static void examples(String readme) throws ReflectiveOperationException {
        ThresholdLines x = null;
        Matcher blocks = Pattern.compile("(?s)```java\n(.*?)```").matcher(readme);
        int rows = 0;
        while (blocks.find()) {
            for (String row : blocks.group(1).split("\n")) {
                Matcher made = Pattern.compile("ThresholdLines x = new ThresholdLines\\((\\d), (\\d)\\);.*").matcher(row);
                Matcher call = ROW.matcher(row);
                if (made.matches()) {
                    x = new ThresholdLines(Integer.parseInt(made.group(1)), Integer.parseInt(made.group(2)));
                } else if (call.matches() && x != null) {
                    boolean same = answer(x, call.group(1), call.group(2)).equals(call.group(3));
                    Check.due("README.md's answer to " + row, same, true);
                    rows++;
                } else {
                    Check.due("a row that can be run: " + row, false, true);
                }
            }
        }
        Check.due("some examples: " + rows, rows > 10, true);
    }

    private static String answer(ThresholdLines x, String name, String list)
        throws IllegalAccessException, InvocationTargetException {
        String[] words = list.isEmpty() ? new String[0] : list.split(", ");
        Object[] arguments = new Object[words.length];
        for (int n = 0; n < words.length; n++) {
            arguments[n] = Integer.decode(words[n]);
        }
        for (Method m : ThresholdLines.class.getMethods()) {
            if (m.getName().equals(name) && m.getParameterCount() == words.length) {
                return String.valueOf(m.invoke(x, arguments));
            }
        }
        return "no such call";
    }
}
