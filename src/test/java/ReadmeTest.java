import java.io.ByteArrayOutputStream;
import java.io.IOException;
import java.io.PrintStream;
import java.nio.charset.StandardCharsets;
import java.nio.file.Files;
import java.nio.file.Path;
import java.util.ArrayList;
import java.util.LinkedHashMap;
import java.util.List;
import java.util.Map;
import java.util.regex.Matcher;
import java.util.regex.Pattern;
import java.util.stream.Collectors;

/** README.md tells how the class is used by the document's words, and its example prints what it says. */
public final class ReadmeTest {
    private static final Pattern HEADING = Pattern.compile("(?m)^#+ (?:Promise \\d+: )?(.*)$");
    private static final Pattern FACE = Pattern.compile("(?s)## The public face\n\n(```java\n.*?\n```\n)");
    private static final Pattern GROUP = Pattern.compile("Ahead of the calls (.*) the interface says: (.*)\\.");
    private static final Pattern PRINTED = Pattern.compile("System\\.out\\.println\\(.*\\);\\s*// ([^:\n]*)");

    private static final Check check = new Check("ReadmeTest");

    public static void main(String[] args) throws IOException {
        String document = Files.readString(Path.of("../shared/DOC.md"));
        String readme = Files.readString(Path.of("README.md"));
        face(document, readme);
        terms(document, readme);
        calls(document, readme);
        groups(document, readme);
        example(readme);
        tests(readme);
        check.end();
    }

    private static void face(String document, String readme) {
        Matcher face = FACE.matcher(document);
        check.same("the document shows the face", true, face.find());
        check.same("the face", true, readme.contains("## The public face\n\n" + face.group(1)));
    }

    private static void terms(String document, String readme) {
        String terms = sections(document).get("Terms").replaceAll("(?s)\nAhead of the calls.*", "");
        check.same("the terms", flat(terms), flat(sections(readme).get("Terms")));
        String lifetime = flat(sections(document).get("What it is")).replace("A records office. ", "");
        check.same("how long an object is used", true, readme.contains(lifetime));
    }

    private static void calls(String document, String readme) {
        Map<String, String> told = sections(readme);
        Matcher promise = Pattern.compile("(?m)^## Promise (\\d+): (.*)$").matcher(document);
        int count = 0;
        while (promise.find()) {
            count++;
            String name = promise.group(2);
            String due = flat(sections(document).get(name));
            check.same("promise " + promise.group(1), due, flat(told.getOrDefault(name, "nothing")));
        }
        check.same("the promises", 33, count);
    }

    /** The calls stand below the headings under which the interface puts them, in its order. */
    private static void groups(String document, String readme) {
        String headings = readme.lines().filter(row -> row.startsWith("#")).collect(Collectors.joining("\n"));
        Matcher group = GROUP.matcher(document);
        int count = 0;
        while (group.find()) {
            count++;
            String title = group.group(2).substring(0, 1).toUpperCase() + group.group(2).substring(1);
            String names = group.group(1).replaceAll("`(\\w+)`,? ?", "\n#### $1");
            check.same("the group " + title, true, headings.contains("### " + title + names + "\n"));
        }
        check.same("the groups", 4, count);
    }

    private static void example(String readme) throws IOException {
        String example = Files.readString(Path.of("src/test/java/Example.java"));
        check.same("the example", true, readme.contains("```java\n" + example + "```\n"));
        List<String> due = new ArrayList<>();
        Matcher printed = PRINTED.matcher(example);
        while (printed.find()) {
            due.add(printed.group(1));
        }
        check.same("what the example prints", due, outputOfExample());
    }

    private static List<String> outputOfExample() {
        PrintStream before = System.out;
        ByteArrayOutputStream taken = new ByteArrayOutputStream();
        System.setOut(new PrintStream(taken, true, StandardCharsets.UTF_8));
        try {
            Example.main(new String[0]);
        } finally {
            System.setOut(before);
        }
        return taken.toString(StandardCharsets.UTF_8).lines().toList();
    }

    private static void tests(String readme) throws IOException {
        check.same("how the tests are run", true, readme.contains("```sh\n.ci/run\n```\n"));
        try (var files = Files.list(Path.of("src/test/java"))) {
            for (Path file : files.filter(f -> f.toString().endsWith("Test.java")).toList()) {
                String name = file.getFileName().toString().replace(".java", "");
                check.same("the test " + name, true, readme.contains("| `" + name + "` |"));
            }
        }
    }

    /** The text under each heading, up to the next heading of any kind; a promise's heading is its name. */
    private static Map<String, String> sections(String text) {
        Map<String, String> sections = new LinkedHashMap<>();
        Matcher heading = HEADING.matcher(text);
        String name = "";
        int begin = 0;
        while (heading.find()) {
            sections.put(name, text.substring(begin, heading.start()));
            name = heading.group(1);
            begin = heading.end();
        }
        sections.put(name, text.substring(begin));
        return sections;
    }

    /** The words alone: no layout, and a call's form without its exceptions, which stand in the face. */
    private static String flat(String text) {
        return text.replaceAll("(?m)^- ", "").replace("**", "").replaceAll("\\s+", " ")
                .replaceAll("`([^`]*\\)) throws [^`]*`", "`$1`").strip();
    }
}
