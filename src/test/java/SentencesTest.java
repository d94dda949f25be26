import java.io.IOException;
import java.nio.file.Files;
import java.nio.file.Path;
import java.util.ArrayList;
import java.util.List;
import java.util.Map;
import java.util.TreeMap;
import java.util.regex.Matcher;
import java.util.regex.Pattern;
import java.util.stream.Stream;

/**
 * The words with which tests name their sentences stand in the document where they are said to
 * stand, and no sentence of "What it is", the Terms and the promises is without a test.
 */
final class SentencesTest {
    private static final Path DOCUMENT = Path.of("../shared/DOC.md");
    private static final Path TESTS = Path.of("src/test/java");
    private static final Pattern PROMISE =
        Pattern.compile("## Promise (\\d+): \\w[\\w ]*?`[^`]*`: (.*?)(?= ## )");
    private static final Pattern SAYS =
        Pattern.compile("Due\\.says\\(\\s*\"([^\"]*)\",\\s*\"([^\"]*)\"\\)");

    private SentencesTest() { }

    public static void main(String[] args) throws IOException {
        if (!Files.exists(DOCUMENT)) {
            System.out.println(DOCUMENT + " is not there: its sentences are not looked at");
            return;
        }
        Map<String, String> sections = sections(oneLine(Files.readString(DOCUMENT)));
        Due.due("sections of what it is, terms, promises", sections.size(), 1 + 5 + 20);
        Map<String, boolean[]> covered = new TreeMap<>();
        sections.forEach((name, text) -> covered.put(name, new boolean[text.length()]));
        for (String[] said : said()) cover(sections, covered, said[0], said[1]);
        for (String name : sections.keySet()) {
            complete(name, sections.get(name), covered.get(name));
        }
        Due.end();
    }

    private static String oneLine(String text) {
        return text.replaceAll("\\s+", " ");
    }

    private static Map<String, String> sections(String doc) {
        Map<String, String> sections = new TreeMap<>();
        sections.put("What it is", between(doc, "## What it is", "## The public face"));
        String terms = between(doc, "## Terms", "## Promise 1:");
        String[] parts = terms.split("=+ (?=\\d )");
        sections.put("Terms", parts[0]);
        for (int k = 1; k < parts.length; k++) {
            String text = parts[k].replaceFirst("^\\d ", "").replaceAll("```(text)?", "");
            sections.put("Terms " + k, text);
        }
        // A heading, then the call with its signature, then what it promises.
        Matcher m = PROMISE.matcher(doc);
        while (m.find()) sections.put("Promise " + m.group(1), m.group(2));
        return sections;
    }

    private static String between(String doc, String from, String to) {
        int start = doc.indexOf(from), end = doc.indexOf(to);
        return start < 0 || end < start ? "" : doc.substring(start + from.length(), end);
    }

    /** Where and what each test says that it holds the class to. */
    private static List<String[]> said() throws IOException {
        List<String[]> said = new ArrayList<>();
        try (Stream<Path> files = Files.list(TESTS)) {
            for (Path file : (Iterable<Path>) files.sorted()::iterator) {
                String source = Files.readString(file).replaceAll("\"\\s*\\+ \"", "");
                Matcher m = SAYS.matcher(source);
                while (m.find()) said.add(new String[] {m.group(1), m.group(2)});
            }
        }
        Due.holds("tests say what they look at", said.size() > 150);
        return said;
    }

    private static void cover(Map<String, String> sections, Map<String, boolean[]> covered,
            String where, String words) {
        String text = sections.get(where);
        if (text == null) {
            Due.holds(where + " is a rule of LANGUAGE.md", where.startsWith("LANGUAGE.md "));
            return;
        }
        int at = text.indexOf(words);
        Due.holds(where + " has the words: " + words, at >= 0);
        for (; at >= 0; at = text.indexOf(words, at + 1)) {
            for (int k = at; k < at + words.length(); k++) covered.get(where)[k] = true;
        }
    }

    private static void complete(String name, String text, boolean[] covered) {
        StringBuilder left = new StringBuilder();
        for (int k = 0; k < text.length(); k++) left.append(covered[k] ? ' ' : text.charAt(k));
        boolean none = left.toString().replaceAll("[^A-Za-z0-9]", "").isEmpty();
        Due.holds(name + " has tests for all, but for: " + oneLine(left.toString()), none);
    }
}
