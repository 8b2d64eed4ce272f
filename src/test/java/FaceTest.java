import java.io.IOException;
import java.lang.reflect.Constructor;
import java.lang.reflect.Field;
import java.lang.reflect.Method;
import java.lang.reflect.Modifier;
import java.nio.file.Files;
import java.nio.file.Path;
import java.util.ArrayList;
import java.util.Arrays;
import java.util.Collections;
import java.util.List;
import java.util.regex.Matcher;
import java.util.regex.Pattern;

/** The public face, and the rules of LANGUAGE.md that can be seen from outside. Run from the project's root. */
public final class FaceTest {
    private static final String[] FACE = {
        "about int", "alike", "back int int int int", "change int int", "colour int", "coloured int boolean",
        "draw", "end int", "fault int", "feed int int int int int", "holds int int int", "join", "joined int",
        "keep int", "like int int", "line int int", "lineOf int", "lines", "mirror int int", "pin int int boolean",
        "set int int int", "walk int int"};

    private FaceTest() {
    }

    public static void main(String[] args) throws IOException {
        face();
        classesInside();
        words(Files.readString(Path.of("src/main/java/ThresholdLines.java")));
        Check.finish();
    }

    private static void face() {
        Class<?> c = ThresholdLines.class;
        Check.due("final", Modifier.isFinal(c.getModifiers()), true);
        List<String> seen = new ArrayList<>();
        for (Method m : c.getDeclaredMethods()) {
            boolean isPublic = Modifier.isPublic(m.getModifiers());
            Check.due("public or private: " + m, isPublic || Modifier.isPrivate(m.getModifiers()), true);
            if (isPublic) {
                seen.add(signature(m));
                Class<?> due = List.of("set", "pin", "keep").contains(m.getName()) ? boolean.class : int.class;
                Check.due("what it answers: " + m, m.getReturnType() == due && !Modifier.isStatic(m.getModifiers()), true);
            }
        }
        Collections.sort(seen);
        List<String> due = new ArrayList<>(Arrays.asList(FACE));
        Collections.sort(due);
        Check.due("the face is " + seen, seen.equals(due), true);
        for (Field f : c.getDeclaredFields()) {
            Check.due("NONE alone is seen: " + f, Modifier.isPrivate(f.getModifiers()), !f.getName().equals("NONE"));
            Check.due("static ones are final: " + f, !Modifier.isStatic(f.getModifiers()) || Modifier.isFinal(f.getModifiers()), true);
        }
        Constructor<?>[] made = c.getDeclaredConstructors();
        Check.due("one constructor", made.length, 1);
        Check.due("NONE", ThresholdLines.NONE, -1);
    }

    private static String signature(Method m) {
        StringBuilder b = new StringBuilder(m.getName());
        for (Class<?> p : m.getParameterTypes()) {
            b.append(' ').append(p.getName());
        }
        return b.toString();
    }

    private static void classesInside() {
        List<String> names = new ArrayList<>();
        for (String signature : FACE) {
            names.add(signature.split(" ")[0]);
        }
        Class<?>[] inside = ThresholdLines.class.getDeclaredClasses();
        Check.due("some twelve classes", inside.length < 12, true);
        checkPrivateNames(ThresholdLines.class, names);
        for (Class<?> c : inside) {
            Check.due("static: " + c, Modifier.isStatic(c.getModifiers()), true);
            Check.due("not public: " + c, Modifier.isPublic(c.getModifiers()) || Modifier.isProtected(c.getModifiers()), false);
            Check.due("some twenty fields: " + c, c.getDeclaredFields().length <= 20, true);
            checkPrivateNames(c, names);
        }
    }

    private static void checkPrivateNames(Class<?> c, List<String> names) {
        for (Method m : c.getDeclaredMethods()) {
            boolean ofTheFace = c == ThresholdLines.class && Modifier.isPublic(m.getModifiers());
            Check.due("no name of the face: " + m, !ofTheFace && names.contains(m.getName()), false);
            Check.due("at most seven parameters: " + m, m.getParameterCount() <= 7, true);
        }
    }

    private static void words(String source) {
        String code = source.replaceAll("(?s)/\\*.*?\\*/", "").replaceAll("//[^\n]*", "");
        for (String word : new String[] {"throw", "throws", "try", "catch", "synchronized", "assert", "static {",
            "->", "::", "package", "hashCode", "toString", "equals", "System.out", "Random", "Thread", "var "}) {
            Matcher m = Pattern.compile((Character.isLetter(word.charAt(0)) ? "\\b" : "") + Pattern.quote(word)
                + (Character.isLetter(word.charAt(word.length() - 1)) ? "\\b" : "")).matcher(code);
            Check.due("no " + word, m.find(), false);
        }
        Matcher imports = Pattern.compile("import ([^;]+);").matcher(code);
        while (imports.find()) {
            Check.due("import " + imports.group(1), List.of("java.util.Arrays", "java.util.ArrayList", "java.util.List")
                .contains(imports.group(1)), true);
        }
        Matcher calls = Pattern.compile("\\b(Math|Arrays|System|Integer|Long)\\.(\\w+)").matcher(code);
        while (calls.find()) {
            Check.due("library: " + calls.group(), List.of("Math.min", "Math.max", "Arrays.fill", "System.arraycopy")
                .contains(calls.group()), true);
        }
        Check.due("signs 1 to 127", source.chars().allMatch(sign -> sign < 128), true);
        shortMethods(source);
    }

    /** A method ends at the brace that stands as far in as its first line. */
    private static void shortMethods(String source) {
        String[] rows = source.split("\n");
        for (int n = 0; n < rows.length; n++) {
            Matcher head = Pattern.compile("^( {4}| {8})\\S.*\\) \\{$").matcher(rows[n]);
            if (head.find()) {
                int last = n;
                while (last < rows.length && !rows[last].equals(head.group(1) + "}")) {
                    last++;
                }
                Check.due("lines of " + rows[n].trim(), last - n < 60, true);
            }
        }
    }
}
