import java.io.IOException;
import java.nio.file.Files;
import java.nio.file.Path;
import java.util.ArrayList;
import java.util.HashSet;
import java.util.LinkedHashMap;
import java.util.List;
import java.util.Map;
import java.util.Set;
import java.util.function.Consumer;
import java.util.regex.Matcher;
import java.util.regex.Pattern;

/**
 * Tests of single sentences: each quotes the words that it holds, which must stand in the section of
 * the document that it names; and each part of a sentence of the document must be quoted by one.
 */
final class Sentences {
    private static final Path DOCUMENT = Path.of("../shared/DOC.md");

    /** What is no sentence of its own: labels, the headings of the interface, and names of arguments. */
    private static final Pattern SAYS_NOTHING = Pattern.compile(
        "[A-Z][a-z]+\\.|In doubt\\.|Ahead of the calls .*|`\\w+`: [^0-9]*|Returns the number");

    private final Map<String, String> sections = new LinkedHashMap<>();
    private final Map<String, List<String>> quotes = new LinkedHashMap<>();
    private final Set<String> wrongOnes = new HashSet<>();
    private final Due found = new Due("the document");
    private String section = "";
    private int tests;

    Sentences() throws IOException {
        Matcher parts = Pattern.compile("(?ms)^## ([^:\\n]+).*?\\n(.*?)(?=^## |\\z)").matcher(Files.readString(DOCUMENT));
        while (parts.find()) {
            sections.put(parts.group(1), parts.group(2));
        }
    }

    /** The section that the sentences after this one stand in. */
    void in(String name) {
        section = name;
        quotes.putIfAbsent(name, new ArrayList<>());
        found.that("a section " + name, sections.containsKey(name));
    }

    void says(String words, Consumer<Due> test) {
        found.that("\"" + words + "\" in " + section, plain(sections.getOrDefault(section, "")).contains(words));
        quotes.get(section).add(words);
        Due due = new Due(section + " says \"" + words + "\"");
        test.accept(due);
        found.that("a test of \"" + words + "\" with an answer", due.held() > 0);
        tests++;
        if (!due.isAllRight()) {
            wrongOnes.add(section + ": " + words);
        }
    }

    void end() {
        sections.forEach((name, text) -> {
            if (name.equals("Terms") || name.startsWith("Promise ")) {
                partsOf(text).forEach(part -> found.that("a test of \"" + part + "\" in " + name, isQuoted(name, part)));
            }
        });
        System.out.println("sentences: " + tests + " tests, " + wrongOnes.size() + " wrong");
        if (!wrongOnes.isEmpty() || tests == 0) {
            System.exit(1);
        }
        found.end();
    }

    private boolean isQuoted(String name, String part) {
        return SAYS_NOTHING.matcher(part).matches() || quotes.getOrDefault(name, List.of()).stream()
            .anyMatch(quote -> part.contains(quote) || quote.contains(part));
    }

    private static String plain(String text) {
        return text.replaceAll("\\s+", " ");
    }

    /** Paragraphs, the points of lists, sentences, and what stands between two semicolons. */
    private static List<String> partsOf(String text) {
        List<String> parts = new ArrayList<>();
        for (String point : text.split("\\n\\s*\\n|\\n- ")) {
            for (String part : plain(point).trim().split("(?<=\\.) (?=[A-Z])|; ")) {
                if (!part.isBlank()) {
                    parts.add(part.replaceFirst("^- ", ""));
                }
            }
        }
        return parts;
    }
}
