import java.io.IOException;
import java.lang.reflect.Method;
import java.nio.file.Files;
import java.nio.file.Path;
import java.util.Set;
import java.util.TreeSet;
import java.util.regex.Matcher;
import java.util.regex.Pattern;

/** Some rules of LANGUAGE.md that can be seen from the text of the class; run where src stands. */
public final class LanguageTest {
    private static final String[] FORBIDDEN = {"->", "::", "\\bsynchronized\\b", "\\bassert\\b", "\\bfinally\\b",
        "\\bstatic\\s*\\{", "\\btry\\s*\\(", "\\bcatch\\b", "\\bvar\\b", "Exact\\b", "\\bhashCode\\b", "\\btoString\\s*\\(\\s*\\)\\s*\\{",
        "\\bThread\\b", "\\bRandom\\b", "\\bSystem\\.(?!arraycopy)", "\\bjava\\.(?!util\\.(ArrayList|List|Arrays|Iterator);)",
        "^package\\b", "\\bextends\\s+\\w*Exception\\b", "\"\\s*\\+", "\\+\\s*\""};

    public static void main(String[] args) throws IOException {
        String text = Files.readString(Path.of("src/main/java/Platehall.java"));
        String code = text.replaceAll("(?s)/\\*.*?\\*/", "").replaceAll("//[^\n]*", "");
        for (String forbidden : FORBIDDEN) {
            Matcher found = Pattern.compile(forbidden, Pattern.MULTILINE).matcher(code);
            Checks.due("found " + forbidden, found.find(), false);
        }
        Checks.due("signs are of 1 to 127", text.chars().allMatch(sign -> sign < 128), true);
        Checks.due("at most twelve classes", Pattern.compile("\\bclass \\w").matcher(code).results().count() <= 12, true);
        lengths(code);
        names();
        Checks.end();
    }

    /** A method begins behind four or eight blanks and ends with a brace behind as many. */
    private static void lengths(String code) {
        String[] lines = code.split("\n", -1);
        for (int i = 0; i < lines.length; i++) {
            boolean begins = lines[i].matches("( {4}| {8})\\w.*\\)?.*\\{") && !lines[i].matches(".*\\b(class|if|for|while|else)\\b.*");
            if (begins) {
                String end = lines[i].replaceAll("\\S.*", "") + "}";
                int last = i;
                while (last < lines.length - 1 && !lines[last].equals(end)) {
                    last++;
                }
                Checks.due("a short method at " + lines[i].trim(), last - i <= 60, true);
                Checks.due("few parameters at " + lines[i].trim(), lines[i].split(",").length <= 7, true);
            }
        }
    }

    /** No method but the public ones bears the name of one. */
    private static void names() {
        Set<String> known = new TreeSet<>();
        for (Method method : Platehall.class.getMethods()) {
            if (method.getDeclaringClass() == Platehall.class) {
                known.add(method.getName());
            }
        }
        Set<String> bad = new TreeSet<>();
        for (Method method : Platehall.class.getDeclaredMethods()) {
            if (!java.lang.reflect.Modifier.isPublic(method.getModifiers()) && known.contains(method.getName())) {
                bad.add(method.getName());
            }
        }
        for (Class<?> inside : Platehall.class.getDeclaredClasses()) {
            for (Method method : inside.getDeclaredMethods()) {
                if (known.contains(method.getName())) {
                    bad.add(inside.getSimpleName() + "." + method.getName());
                }
            }
        }
        Checks.due("names used twice", bad.toString(), "[]");
    }
}
