import java.io.IOException;
import java.io.UncheckedIOException;
import java.nio.file.Files;
import java.nio.file.Path;
import java.util.LinkedHashMap;
import java.util.LinkedHashSet;
import java.util.Map;
import java.util.Set;
import java.util.regex.Matcher;
import java.util.regex.Pattern;

/**
 * The sentences of ../shared/DOC.md by the section that they stand in. A paragraph of the section "Terms"
 * that begins with a label, as "Joins. ", is a section of its own, as "Terms: Joins".
 */
final class DocumentText {
    private static final Path FILE = Path.of("../shared/DOC.md");
    private static final Pattern LABEL = Pattern.compile("([A-Z][a-z]+(?: and [a-z]+)?)\\. (.*)");
    private static final Pattern SIGNATURE = Pattern.compile("`[^`]*`: (.*)");

    private final Map<String, Set<String>> sections = new LinkedHashMap<>();
    private String heading = "";

    DocumentText() {
        for (String paragraph : read().split("\n\n+")) {
            take(paragraph.replace('\n', ' ').strip());
        }
    }

    /** The sentences of a section in their order, none if there is no such section. */
    Set<String> sentencesOf(String section) {
        return sections.getOrDefault(section, Set.of());
    }

    private static String read() {
        try {
            return Files.readString(FILE);
        } catch (IOException e) {
            throw new UncheckedIOException(e);
        }
    }

    private void take(String paragraph) {
        if (paragraph.startsWith("## ")) {
            heading = paragraph.substring(3).replaceFirst(":.*", "");
        } else if (!isBeside(paragraph)) {
            takeText(paragraph);
        }
    }

    /** The title, the rows of parameters and what tells the order of the calls promise nothing by themselves. */
    private static boolean isBeside(String paragraph) {
        return paragraph.startsWith("# ") || paragraph.startsWith("- ") || paragraph.startsWith("Ahead of the calls");
    }

    private void takeText(String paragraph) {
        Matcher label = LABEL.matcher(paragraph);
        Matcher signature = SIGNATURE.matcher(paragraph);
        if (heading.equals("Terms") && label.matches()) {
            takeSentences("Terms: " + label.group(1), label.group(2));
        } else if (signature.matches()) {
            takeSentences(heading, signature.group(1));
        } else {
            takeSentences(heading, paragraph);
        }
    }

    private void takeSentences(String section, String text) {
        Set<String> sentences = sections.computeIfAbsent(section, s -> new LinkedHashSet<>());
        for (String sentence : text.split("(?<=\\.) ")) {
            sentences.add(sentence);
        }
    }
}
