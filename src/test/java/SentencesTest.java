import java.io.IOException;
import java.nio.file.Files;
import java.nio.file.Path;
import java.util.Arrays;
import java.util.List;
import java.util.Map;
import java.util.TreeMap;
import java.util.regex.Matcher;
import java.util.regex.Pattern;
import java.util.stream.Collectors;
import java.util.stream.Stream;

/** Every sentence of the Terms and of the promises has an edge() of its own, which quotes it word for word. */
public final class SentencesTest {
    private static final Path DOCUMENT = Path.of("../shared/DOC.md");
    private static final Path TESTS = Path.of("src/test/java");
    private static final Pattern EDGE = Pattern.compile("edge\\(\"(\\w+)\", \"([^\"]*)\",");

    private static int wrong = 0;

    public static void main(String[] args) throws IOException {
        Map<String, String> parts = partsOf(Files.readString(DOCUMENT));
        Map<String, boolean[]> quoted = new TreeMap<>();
        parts.forEach((part, text) -> quoted.put(part, new boolean[text.length()]));
        int edges = 0;
        for (Path test : tests()) {
            Matcher m = EDGE.matcher(Files.readString(test));
            while (m.find()) {
                edges++;
                mark(m.group(1), m.group(2), parts, quoted);
            }
        }
        for (Map.Entry<String, String> part : parts.entrySet()) {
            if (!part.getKey().equals("face")) {
                unquoted(part.getKey(), part.getValue(), quoted.get(part.getKey()));
            }
        }
        if (parts.size() != 44 + 5 + 1) {
            bad("parts of the document: " + parts.keySet());
        }
        System.out.println(edges + " tests of sentences in " + parts.size() + " parts of the document");
        System.out.println(wrong == 0 ? "every sentence has its test" : wrong + " things are not as due");
        if (wrong != 0) {
            System.exit(1);
        }
    }

    private static void bad(String what) {
        wrong++;
        System.out.println(what);
    }

    private static List<Path> tests() throws IOException {
        try (Stream<Path> all = Files.list(TESTS)) {
            return all.filter(p -> p.getFileName().toString().endsWith("EdgesTest.java")).sorted().collect(Collectors.toList());
        }
    }

    /** Terms by their Roman numbers, promises by theirs, the rest as "face"; blanks and line ends as one blank. */
    private static Map<String, String> partsOf(String document) {
        Map<String, String> parts = new TreeMap<>();
        String part = "face";
        for (String line : document.split("\n")) {
            Matcher promise = Pattern.compile("## Promise (\\d+): .*").matcher(line);
            Matcher term = Pattern.compile("(I|II|III|IV|V)\\. (.*)").matcher(line);
            if (promise.matches()) {
                part = promise.group(1);
                continue;
            }
            if (line.startsWith("## ") || line.startsWith("The constants:")) {
                part = "face";
            }
            String text = line.replaceAll("^`.*`: ", "");
            if (term.matches()) {
                part = term.group(1);
                text = term.group(2);
            }
            if (!line.startsWith("```")) {
                parts.merge(part, text.trim(), (a, b) -> (a + " " + b).trim());
            }
        }
        parts.replaceAll((name, text) -> text.replaceAll("\\s+", " "));
        return parts;
    }

    private static void mark(String part, String words, Map<String, String> parts, Map<String, boolean[]> quoted) {
        int at = parts.getOrDefault(part, "").indexOf(words);
        if (at < 0) {
            bad("the document has no such words in " + part + ": " + words);
            return;
        }
        Arrays.fill(quoted.get(part), at, at + words.length(), true);
    }

    private static void unquoted(String part, String text, boolean[] quoted) {
        StringBuilder left = new StringBuilder();
        for (int i = 0; i < text.length(); i++) {
            if (!quoted[i] && Character.isLetterOrDigit(text.charAt(i))) {
                left.append(text.charAt(i));
            } else if (left.length() > 0 && left.charAt(left.length() - 1) != ' ') {
                left.append(' ');
            }
        }
        if (!left.toString().isBlank()) {
            bad("no test quotes, in " + part + ": " + left);
        }
    }
}
