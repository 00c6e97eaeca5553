import java.io.IOException;
import java.nio.file.Files;
import java.nio.file.Path;
import java.util.ArrayList;
import java.util.HashMap;
import java.util.List;
import java.util.Map;
import java.util.Set;
import java.util.TreeSet;
import java.util.regex.Matcher;
import java.util.regex.Pattern;
import java.util.stream.Stream;

/**
 * That every sentence of the document's Terms and every line of its promises is named by a test, by Checks.says or
 * Checks.promise, and that none is named that is not there (any more); run where src stands.
 */
public final class SentencesTest {
    private static final Pattern TEXT_CONSTANT = Pattern.compile("String (\\w+) = \"((?:[^\"\\\\]|\\\\.)*)\";");
    private static final Pattern SAYS = Pattern.compile("Checks\\.says\\((?:\"((?:[^\"\\\\]|\\\\.)*)\"|(\\w+))\\)");
    private static final Pattern PROMISE =
            Pattern.compile("Checks\\.promise\\((\\d+), \"((?:[^\"\\\\]|\\\\.)*)\"\\)");

    public static void main(String[] args) throws IOException {
        Set<String> documented = documented(Files.readAllLines(Path.of("../shared/DOC.md")));
        Set<String> tested = new TreeSet<>();
        try (Stream<Path> files = Files.list(Path.of("src/test/java"))) {
            for (Path file : files.filter(one -> one.toString().endsWith("Test.java")).toList()) {
                addNamed(Files.readString(file), tested);
            }
        }
        Checks.due("the document was read", documented.size() > 150, true);
        for (String sentence : documented) {
            Checks.due("a test of: " + sentence, tested.contains(sentence), true);
        }
        for (String sentence : tested) {
            Checks.due("in the document: " + sentence, documented.contains(sentence), true);
        }
        Checks.end();
    }

    private static Set<String> documented(List<String> lines) {
        Set<String> all = new TreeSet<>();
        String section = "";
        for (String line : lines) {
            if (line.startsWith("## ")) {
                section = line.substring(3);
            } else if (section.startsWith("Promise ")) {
                addPromised(section.replaceAll(":.*", ": "), line, all);
            } else if (section.equals("Terms")) {
                all.addAll(sentences(line));
            } else if (line.startsWith("An object is used for")) {
                all.addAll(sentences(line));
            }
        }
        return all;
    }

    /** A constant is one with what is said of it; headings, which have no small letters, are none. */
    private static List<String> sentences(String line) {
        List<String> all = new ArrayList<>();
        if (line.contains("`")) {
            all.add(line.replace("The constants: ", "").replace("`", "").trim());
            return all;
        }
        for (String sentence : line.trim().split("(?<=\\.) (?=[A-Z])")) {
            if (!sentence.equals(sentence.toUpperCase())) {
                all.add(sentence);
            }
        }
        return all;
    }

    private static void addPromised(String promise, String line, Set<String> all) {
        String plain = line.replaceAll("^`.*?`: ", "").replaceAll("^- ", "").replace("`", "").trim();
        if (!plain.isEmpty()) {
            all.add(promise + plain);
        }
    }

    /** Long texts are joined first, and constants are looked up. */
    private static void addNamed(String source, Set<String> tested) {
        String joined = source.replaceAll("\"\\s*\\+\\s*\"", "");
        Map<String, String> constants = new HashMap<>();
        Matcher constant = TEXT_CONSTANT.matcher(joined);
        while (constant.find()) {
            constants.put(constant.group(1), constant.group(2));
        }
        Matcher says = SAYS.matcher(joined);
        while (says.find()) {
            String text = says.group(1) != null ? says.group(1) : constants.getOrDefault(says.group(2), "nothing");
            tested.add(text.replace("\\\"", "\""));
        }
        Matcher promise = PROMISE.matcher(joined);
        while (promise.find()) {
            tested.add("Promise " + promise.group(1) + ": " + promise.group(2).replace("\\\"", "\""));
        }
    }
}
