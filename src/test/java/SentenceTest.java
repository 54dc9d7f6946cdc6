import java.io.IOException;
import java.nio.file.Files;
import java.nio.file.Path;
import java.util.ArrayList;
import java.util.LinkedHashMap;
import java.util.List;
import java.util.Map;
import java.util.regex.Matcher;
import java.util.regex.Pattern;
import java.util.stream.Stream;

/** Each sentence of the document that names an edge is quoted by an EdgeTest, and what is quoted stands there. */
public final class SentenceTest {
    private static final Path DOCUMENT = Path.of("../shared/DOC.md");
    private static final Path TESTS = Path.of("src/test/java");
    /** Words by which a sentence names an edge. */
    private static final Pattern EDGE = Pattern.compile("-\\d|NONE|\\.\\.|\\b0\\b|cut\\b|several|fewest|least\\b|most\\b|empty|"
            + "nothing|like ones|ahead|all are|all is|modulo|one place|none|first|stays|once|below|lowest");

    public static void main(String[] args) throws IOException {
        if (!Files.isReadable(DOCUMENT)) {
            System.out.println("there is no document to look at");
            return;
        }
        Map<String, String> document = parts(Files.readString(DOCUMENT));
        Check.due("terms and promises", document.size(), 6 + 65);
        Map<String, List<String>> quotes = quotes(document);
        for (Map.Entry<String, String> part : document.entrySet()) {
            List<String> said = quotes.getOrDefault(part.getKey(), new ArrayList<>());
            Check.due(part.getKey() + " is quoted", said.isEmpty() ? 0 : 1, 1);
            for (String sentence : part.getValue().split("(?<=[^. ][.;]) (?=\\S)")) {
                if (EDGE.matcher(sentence).find()) {
                    Check.due(part.getKey() + ": " + sentence, isQuoted(sentence, said) ? 1 : 0, 1);
                }
            }
        }
        Check.finish();
    }

    private static boolean isQuoted(String sentence, List<String> said) {
        String bare = sentence.replaceAll("[.;]$", "");
        for (String words : said) {
            if (words.contains(bare) || bare.contains(words.replaceAll("[.;]$", ""))) {
                return true;
            }
        }
        return false;
    }

    /** The words of each term (I .. VI) and of each promise (1 .. 65). */
    private static Map<String, String> parts(String text) {
        Map<String, String> parts = new LinkedHashMap<>();
        String terms = between(text, "## Terms", "## Promise 1:").replace("```text", "").replace("```", "");
        Matcher term = Pattern.compile("(?ms)^(I|II|III|IV|V|VI)\\. (.*?)(?=^(?:I|II|III|IV|V|VI)\\. |\\z)").matcher(terms);
        while (term.find()) {
            parts.put(term.group(1), plain(term.group(2)));
        }
        String promises = text.substring(text.indexOf("## Promise 1:"), text.indexOf("## Not promised"));
        Matcher promise = Pattern.compile("(?ms)^## Promise (\\d+): [^\\n]*\\n(.*?)(?=^## Promise |\\z)").matcher(promises);
        while (promise.find()) {
            parts.put(promise.group(1), plain(promise.group(2).replaceFirst("(?s)^\\s*`[^`]*`: ", "")));
        }
        return parts;
    }

    private static String between(String text, String from, String to) {
        return text.substring(text.indexOf(from) + from.length(), text.indexOf(to));
    }

    private static String plain(String text) {
        return text.replaceAll("\\s+", " ").trim();
    }

    private static Map<String, List<String>> quotes(Map<String, String> document) throws IOException {
        Map<String, List<String>> quotes = new LinkedHashMap<>();
        List<Path> files;
        try (Stream<Path> all = Files.list(TESTS)) {
            files = all.filter(file -> file.getFileName().toString().endsWith("EdgeTest.java")).sorted().toList();
        }
        for (Path file : files) {
            String source = Files.readString(file).replaceAll("\"\\s*\\+ \"", "");
            Matcher says = Pattern.compile("Check\\.says\\(\"(\\w+)\",\\s*\"([^\"]*)\"\\);").matcher(source);
            while (says.find()) {
                String where = says.group(1);
                String words = says.group(2);
                Check.due(file.getFileName() + " quotes " + where + ": " + words,
                        document.getOrDefault(where, "").contains(words) ? 1 : 0, 1);
                quotes.computeIfAbsent(where, key -> new ArrayList<>()).add(words);
            }
        }
        return quotes;
    }
}
