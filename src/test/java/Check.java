import java.util.ArrayList;
import java.util.LinkedHashMap;
import java.util.List;
import java.util.Map;
import java.util.function.Supplier;

/**
 * Counts the answers of one test program that are due and those that are not. Each answer stands for the
 * sentence of the document that was named last; a sentence that is not in the document, and a sentence of
 * the program's sections that no answer stands for, count as answers that are not due.
 */
final class Check {
    /** One call on an office. */
    interface Call {
        Object on(Archivepress office);
    }

    private final String test;
    private final List<String> sections;
    private final DocumentText document = new DocumentText();
    /** How many answers stand for each sentence that was named. */
    private final Map<String, Integer> answers = new LinkedHashMap<>();
    private String named = "no sentence";
    private Class<? extends RuntimeException> refusal = RuntimeException.class;
    private int passed;
    private int failed;

    Check(String test, String... sections) {
        this.test = test;
        this.sections = List.of(sections);
    }

    static Check ofPromises(String test, int first, int last) {
        List<String> sections = new ArrayList<>();
        for (int promise = first; promise <= last; promise++) {
            sections.add("Promise " + promise);
        }
        return new Check(test, sections.toArray(new String[0]));
    }

    /** What follows stands for this sentence. */
    void sentence(String section, String sentence) {
        named = nameOf(section, sentence);
        answers.putIfAbsent(named, 0);
        if (!document.sentencesOf(section).contains(sentence)) {
            fail("is not in the document");
        }
    }

    void promise(int number, String sentence) {
        sentence("Promise " + number, sentence);
    }

    void term(String label, String sentence) {
        sentence("Terms: " + label, sentence);
    }

    /** What follows stands for the sentence that the exception is thrown if the condition holds. */
    void refusal(int number, Class<? extends RuntimeException> exception, String condition) {
        refusal = exception;
        promise(number, "Throws `" + exception.getSimpleName() + "` if " + condition);
    }

    /** A sentence that says nothing of what a call does. */
    void promisesNothing(String section, String sentence) {
        sentence(section, sentence);
        answers.put(named, 1);
    }

    void same(String what, Object due, Object got) {
        answers.computeIfPresent(named, (sentence, count) -> count + 1);
        if (due.equals(got)) {
            passed++;
        } else {
            fail(what + " answered " + got + ", due is " + due);
        }
    }

    /** The call throws what the sentence that was named last says. */
    void refused(String what, Supplier<Archivepress> made, Call call) {
        fails(what, refusal, made, call);
    }

    /** The call throws just this exception, not a class below it, and leaves the office as it was. */
    void fails(String what, Class<? extends RuntimeException> due, Supplier<Archivepress> made, Call call) {
        Archivepress one = made.get();
        Archivepress other = made.get();
        same(what, "throws." + due.getName(), answerOf(one, call));
        answerOf(other, call);
        same(what + " changes nothing", Picture.ofToday(made.get()), Picture.ofToday(one));
        same(what + " changes nothing of what comes", Picture.ofWhatComes(made.get()), Picture.ofWhatComes(other));
    }

    static String answerOf(Archivepress office, Call call) {
        try {
            return String.valueOf(call.on(office));
        } catch (RuntimeException e) {
            return "throws." + e.getClass().getName();
        }
    }

    void end() {
        for (String section : sections) {
            everySentenceIsStoodFor(section);
        }
        System.out.println(test + ": " + answers.size() + " sentences, " + passed + " answers as due, "
                + failed + " not");
        if (failed != 0 || passed == 0) {
            System.exit(1);
        }
    }

    private void everySentenceIsStoodFor(String section) {
        if (document.sentencesOf(section).isEmpty()) {
            named = section;
            fail("is not in the document");
        }
        for (String sentence : document.sentencesOf(section)) {
            named = nameOf(section, sentence);
            if (answers.getOrDefault(named, 0) == 0) {
                fail("has no test");
            }
        }
    }

    private static String nameOf(String section, String sentence) {
        return section + ", \"" + sentence + "\"";
    }

    private void fail(String what) {
        failed++;
        System.out.println(test + ": " + named + ": " + what);
    }
}
