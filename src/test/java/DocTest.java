import java.io.IOException;
import java.nio.charset.StandardCharsets;
import java.nio.file.DirectoryStream;
import java.nio.file.Files;
import java.nio.file.Path;
import java.util.HashMap;
import java.util.LinkedHashSet;
import java.util.Map;
import java.util.Set;
import java.util.regex.Matcher;
import java.util.regex.Pattern;

/** Each sentence of the document that can be broken is quoted by a test, as Check.sentence(promise, words). */
public final class DocTest {
    private static final String WORDS = "((?:\"[^\"]*\"[\\s+]*)+|[A-Z_]+)";
    private static final Pattern QUOTE = Pattern.compile("Check\\.sentence\\((\\d+),\\s*" + WORDS + "\\)");
    private static final Pattern NAMED = Pattern.compile("static final String ([A-Z_]+) = " + WORDS + ";");
    private static final Pattern HEADING = Pattern.compile("## Promise (\\d+): .*");

    public static void main(String[] args) throws IOException {
        Set<String> told = sentences(Files.readString(Path.of("../shared/DOC.md"), StandardCharsets.UTF_8));
        Set<String> quoted = quotes();
        for (String sentence : told) {
            Check.due("a test of " + sentence, quoted.contains(sentence), true);
        }
        for (String sentence : quoted) {
            Check.due("the document says " + sentence, told.contains(sentence), true);
        }
        Check.end("DocTest");
    }

    private static Set<String> quotes() throws IOException {
        Set<String> quotes = new LinkedHashSet<>();
        try (DirectoryStream<Path> tests = Files.newDirectoryStream(Path.of("src/test/java"), "*Test.java")) {
            for (Path test : tests) {
                addQuotes(quotes, Files.readString(test, StandardCharsets.UTF_8));
            }
        }
        return quotes;
    }

    private static void addQuotes(Set<String> quotes, String test) {
        Map<String, String> named = new HashMap<>();
        Matcher name = NAMED.matcher(test);
        while (name.find()) {
            named.put(name.group(1), whole(name.group(2)));
        }
        Matcher quote = QUOTE.matcher(test);
        while (quote.find()) {
            String words = quote.group(2);
            quotes.add(quote.group(1) + ": " + (words.startsWith("\"") ? whole(words) : named.get(words)));
        }
    }

    /** The text of one or more literals that are joined by +. */
    private static String whole(String literals) {
        String joined = literals.replaceAll("\"\\s*\\+\\s*\"", "").trim();
        return joined.substring(1, joined.length() - 1);
    }

    private static Set<String> sentences(String document) {
        Set<String> sentences = new LinkedHashSet<>();
        int promise = -1;
        for (String line : document.split("\n")) {
            Matcher heading = HEADING.matcher(line);
            if (line.startsWith("## ")) {
                promise = line.equals("## Terms") ? 0 : heading.matches() ? Integer.parseInt(heading.group(1)) : -1;
            } else if (promise == 0 && !line.startsWith("Ahead of the calls")) {
                addEach(sentences, 0, line.replaceFirst("^[A-Z][a-z]*( minute)?\\. ", ""));
            } else if (promise > 0) {
                addPromised(sentences, promise, line);
            }
        }
        return sentences;
    }

    private static void addEach(Set<String> sentences, int promise, String line) {
        for (String sentence : line.split("(?<=\\.) ")) {
            // Whether several threads get on well can't be told by calls.
            if (!sentence.isBlank() && !sentence.contains("thread-safe")) {
                sentences.add(promise + ": " + sentence);
            }
        }
    }

    /** The signature, and arguments without a range, say nothing that the sentences on what is thrown don't say. */
    private static void addPromised(Set<String> sentences, int promise, String line) {
        if (line.startsWith("`")) {
            addEach(sentences, promise, line.replaceFirst("`[^`]*`: ", ""));
        } else if (line.startsWith("- ")) {
            if (line.matches(".*(\\d to \\d|from 0|true if|'m').*")) {
                sentences.add(promise + ": " + line.substring(2));
            }
        } else if (!line.isBlank()) {
            addEach(sentences, promise, line);
        }
    }
}
