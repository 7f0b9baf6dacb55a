/**
 * All that can be seen of an office, as one text. Taking it changes the office, since much shows only in
 * what changing calls return: so there are two pictures, each for an office of its own, and each of less
 * than 350 calls.
 */
final class Picture {
    private final Archivepress office;
    private final StringBuilder text = new StringBuilder();

    private Picture(Archivepress office) {
        this.office = office;
    }

    /** What is there, and how many of each kind. */
    static String ofToday(Archivepress office) {
        Picture picture = new Picture(office);
        picture.seeCounters();
        picture.seeAskers();
        picture.seeDocuments();
        picture.seeRequests();
        picture.seeLines();
        picture.seeByChanging();
        return picture.text.toString();
    }

    /** What becomes of it when days pass and all requests that wait are answered. */
    static String ofWhatComes(Archivepress office) {
        Picture picture = new Picture(office);
        picture.seeHolders();
        picture.seeDaysPass(1);
        picture.seeDaysPass(19);
        picture.seeDaysPass(1);
        picture.seeAnswers();
        picture.seeCounters();
        picture.seeAskers();
        picture.seeHolders();
        picture.seeDaysPass(90);
        return picture.text.toString();
    }

    private boolean see(String name, Check.Call call) {
        String answer = Check.answerOf(office, call);
        text.append(name).append('=').append(answer).append(' ');
        return !answer.startsWith("throws.");
    }

    private void seeCounters() {
        see("day", x -> x.day());
        see("hidden", x -> x.hidden());
        see("late", x -> x.late());
        see("fees", x -> x.fees());
        see("share", x -> x.answeredShare());
    }

    private void seeAskers() {
        for (int i = 0; i < 5; i++) {
            int asker = i;
            see("held", x -> x.held(asker));
            see("given", x -> x.given(asker));
            see("owed", x -> x.owed(asker));
        }
    }

    private void seeDocuments() {
        boolean more = true;
        for (int i = 0; more; i++) {
            int document = i;
            more = see("lines", x -> x.lines(document));
        }
    }

    private void seeRequests() {
        boolean more = true;
        for (int i = 0; more; i++) {
            int request = i;
            more = see("state", x -> x.state(request));
        }
    }

    private void seeLines() {
        boolean more = true;
        for (int i = 0; more; i++) {
            int line = i;
            more = see("document", x -> x.documentOf(line));
            see("index", x -> x.indexOf(line));
            see("isHidden", x -> x.isHidden(line));
            see("holders", x -> x.holders(line));
            see("value", x -> x.rescan(line, 0));
        }
    }

    private void seeHolders() {
        boolean more = true;
        for (int i = 0; more; i++) {
            int line = i;
            more = see("holders", x -> x.holders(line));
        }
    }

    private void seeDaysPass(int days) {
        see("pass", x -> x.pass(days));
        see("late", x -> x.late());
        see("hidden", x -> x.hidden());
    }

    private void seeAnswers() {
        for (int i = 0; see("state", stateOf(i)); i++) {
            int request = i;
            see("answer", x -> x.answer(request));
        }
    }

    private static Check.Call stateOf(int request) {
        return x -> x.state(request);
    }

    private void seeByChanging() {
        see("price", x -> x.setPrice(0));
        see("request", x -> x.request(4, 0));
        for (int span = 0; span < 12; span++) {
            int number = span;
            see("lift", x -> x.lift(number));
        }
        see("span", x -> x.addSpan(0, 0, 0, 9999));
        see("rule", x -> x.addRule(0, 0, 9999));
        see("join", x -> x.addJoin(0, 1, 2));
        see("held", x -> x.held(0));
        see("line", x -> x.addLine(0, 0));
        see("document", x -> x.addDocument());
    }
}
