import java.io.IOException;
import java.lang.reflect.InvocationTargetException;
import java.net.URL;
import java.net.URLClassLoader;
import java.nio.file.Files;
import java.nio.file.Path;
import java.util.ArrayList;
import java.util.List;
import java.util.Set;
import java.util.TreeSet;
import java.util.regex.Matcher;
import java.util.regex.Pattern;
import java.util.stream.Stream;
import javax.tools.ToolProvider;

/**
 * What README.md says is so: its example is compiled and answers as it says, its calls and constants are those of the
 * document's face, its tests are those of the project; run where src stands.
 */
public final class ReadmeTest {
    private static final Pattern ANSWERED = Pattern.compile("(?:int \\w+ = )?(hall\\.\\w+\\(.*\\));\\s*// (.*)");
    private static final Pattern OF_FACE = Pattern.compile("public \\w+ (\\w+)\\((.*?)\\)(?: throws (.*))?;");
    private static final Pattern CALL_ROW = Pattern.compile("\\| `(\\w+\\([\\w, ]*\\))` \\| .*? \\| ([a-z, ]*)\\|");
    private static final Pattern TEST_ROW = Pattern.compile("\\| `(\\w+Test)` \\| (.*?) \\| .*? \\|");

    public static void main(String[] args) throws Exception {
        List<String> page = Files.readAllLines(Path.of("README.md"));
        List<String> document = Files.readAllLines(Path.of("../shared/DOC.md"));
        exampleAnswers(page);
        Checks.due("the calls", callsOf(page), callsOfFace(document));
        constants(page, document);
        Checks.due("the tests", testsOf(page), testsThere());
        promises(page);
        Checks.end();
    }

    /** The lines between a line that opens a block so and the one that closes it. */
    private static List<String> block(List<String> lines, String opening) {
        int first = lines.indexOf(opening) + 1;
        int end = first;
        while (first > 0 && end < lines.size() && !lines.get(end).equals("```")) {
            end++;
        }
        return lines.subList(first, end);
    }

    private static void exampleAnswers(List<String> page) throws Exception {
        List<String> example = block(page, "```java");
        List<String> want = new ArrayList<>();
        String source = sourceOf(example, want);
        List<String> got = run(source);
        Checks.due("the example has answers", want.size() > 20, true);
        Checks.due("the example", String.join("\n", got), String.join("\n", want));
    }

    /** The example as a class that writes down each answer which the example tells. */
    private static String sourceOf(List<String> example, List<String> want) {
        StringBuilder source = new StringBuilder("public class Example {\n"
                + "  public static void run(java.util.List<String> got) {\n");
        for (String line : example) {
            Matcher answered = ANSWERED.matcher(line);
            if (!answered.matches()) {
                source.append(line).append('\n');
                continue;
            }
            String answer = answered.group(2).replaceAll(":.*", "");
            want.add(answered.group(1) + " " + answer);
            if (answer.startsWith("throws ")) {
                source.append("try { ").append(line.replaceAll("//.*", ""));
                source.append(" } catch (").append(answer.substring(7)).append(" e) { ");
                source.append(noted(answered.group(1), '"' + answer + '"')).append("}\n");
            } else {
                String value = line.startsWith("int ") ? line.split(" ")[1] : answered.group(1);
                String first = line.startsWith("int ") ? line.replaceAll("//.*", "") : "";
                source.append(first).append(noted(answered.group(1), value)).append('\n');
            }
        }
        return source.append("  }\n}\n").toString();
    }

    private static String noted(String call, String value) {
        return "got.add(\"" + call.replace("\"", "\\\"") + " \" + " + value + ");";
    }

    private static List<String> run(String source) throws Exception {
        Path folder = Files.createTempDirectory("readme");
        Path file = folder.resolve("Example.java");
        List<String> got = new ArrayList<>();
        try {
            Files.writeString(file, source);
            int refused = ToolProvider.getSystemJavaCompiler().run(null, null, null, "--release", "17", "-d",
                    folder.toString(), "-cp", System.getProperty("java.class.path"), file.toString());
            Checks.due("the example compiles", refused, 0);
            if (refused == 0) {
                call(folder, got);
            }
        } finally {
            Files.deleteIfExists(folder.resolve("Example.class"));
            Files.deleteIfExists(file);
            Files.delete(folder);
        }
        return got;
    }

    private static void call(Path folder, List<String> got) throws Exception {
        try (URLClassLoader loader = new URLClassLoader(new URL[] {folder.toUri().toURL()})) {
            loader.loadClass("Example").getMethod("run", List.class).invoke(null, got);
        } catch (InvocationTargetException e) {
            got.add("threw " + Checks.nameOf(e.getCause()));
        }
    }

    private static String callsOf(List<String> page) {
        StringBuilder all = new StringBuilder();
        for (String line : page) {
            Matcher row = CALL_ROW.matcher(line);
            if (row.matches()) {
                all.append((row.group(1) + ' ' + row.group(2)).trim()).append('\n');
            }
        }
        return all.toString();
    }

    private static String callsOfFace(List<String> document) {
        StringBuilder all = new StringBuilder();
        for (String line : block(document, "```java")) {
            Matcher call = OF_FACE.matcher(line.trim());
            if (call.matches()) {
                String thrown = call.group(3) == null ? "" : call.group(3);
                String names = thrown.replace("IndexOutOfBoundsException", "index")
                        .replace("IllegalArgumentException", "argument").replace("IllegalStateException", "state");
                String arguments = call.group(2).replaceAll("\\w+ (\\w+)", "$1");
                all.append((call.group(1) + '(' + arguments + ") " + names).trim()).append('\n');
            }
        }
        Checks.due("the face has calls", all.length() > 0, true);
        return all.toString();
    }

    private static void constants(List<String> page, List<String> document) {
        String start = "public static final int ";
        int there = 0;
        for (String line : block(document, "```java")) {
            if (line.trim().startsWith(start)) {
                String constants = "- `" + line.trim().substring(start.length()).replace(";", "`: ");
                Checks.due(constants, page.stream().anyMatch(one -> one.startsWith(constants)), true);
                there++;
            }
        }
        Checks.due("the face has constants", there > 0, true);
    }

    private static String testsOf(List<String> page) {
        Set<String> all = new TreeSet<>();
        for (String line : page) {
            Matcher row = TEST_ROW.matcher(line);
            if (row.matches() && !all.add(row.group(1))) {
                all.add(row.group(1) + " twice");
            }
        }
        return all.toString();
    }

    private static String testsThere() throws IOException {
        Set<String> all = new TreeSet<>();
        try (Stream<Path> files = Files.list(Path.of("src/test/java"))) {
            files.map(file -> file.getFileName().toString()).filter(name -> name.endsWith("Test.java"))
                    .forEach(name -> all.add(name.replace(".java", "")));
        }
        return all.toString();
    }

    /** Each promise has a test of its own, beside those that are of all. */
    private static void promises(List<String> page) {
        Set<Integer> tested = new TreeSet<>();
        for (String line : page) {
            Matcher row = TEST_ROW.matcher(line);
            if (row.matches() && row.group(2).matches("\\d.*")) {
                String[] ends = row.group(2).split("\\D+");
                boolean isRun = row.group(2).contains(" to ");
                for (int n = Integer.parseInt(ends[0]); isRun && n <= Integer.parseInt(ends[1]); n++) {
                    tested.add(n);
                }
                for (String end : ends) {
                    tested.add(Integer.parseInt(end));
                }
            }
        }
        for (int promise = 1; promise <= 29; promise++) {
            Checks.due("a test of promise " + promise, tested.contains(promise), true);
        }
    }
}
