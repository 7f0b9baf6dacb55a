/**
 * All that can be seen of an office, as one text. Taking it changes the office, since values, counts
 * and the price show only in what changing calls return; some 350 calls are made for a full office.
 */
final class Picture {
    private final Archivepress office;
    private final StringBuilder text = new StringBuilder();

    private Picture(Archivepress office) {
        this.office = office;
    }

    static String of(Archivepress office) {
        Picture picture = new Picture(office);
        picture.seeCounters();
        picture.seeAskers();
        picture.seeDocuments();
        picture.seeRequests();
        picture.seeLines();
        picture.seeByChanging();
        return picture.text.toString();
    }

    private boolean see(String name, Check.Call call) {
        String answer = Check.answerOf(office, call);
        text.append(name).append('=').append(answer).append(' ');
        return !answer.startsWith("throws.");
    }

    private void seeCounters() {
        see("day", x -> x.day());
        see("hidden", x -> x.hidden());
        see("late", x -> x.late());
        see("fees", x -> x.fees());
        see("share", x -> x.answeredShare());
    }

    private void seeAskers() {
        for (int i = 0; i < 5; i++) {
            int asker = i;
            see("held", x -> x.held(asker));
            see("given", x -> x.given(asker));
            see("owed", x -> x.owed(asker));
        }
    }

    private void seeDocuments() {
        boolean more = true;
        for (int i = 0; more; i++) {
            int document = i;
            more = see("lines", x -> x.lines(document));
        }
    }

    private void seeRequests() {
        boolean more = true;
        for (int i = 0; more; i++) {
            int request = i;
            more = see("state", x -> x.state(request));
        }
    }

    private void seeLines() {
        boolean more = true;
        for (int i = 0; more; i++) {
            int line = i;
            more = see("document", x -> x.documentOf(line));
            see("index", x -> x.indexOf(line));
            see("isHidden", x -> x.isHidden(line));
            see("holders", x -> x.holders(line));
            see("value", x -> x.rescan(line, 0));
        }
    }

    private void seeByChanging() {
        see("price", x -> x.setPrice(0));
        see("request", x -> x.request(4, 0));
        for (int span = 0; span < 12; span++) {
            int number = span;
            see("lift", x -> x.lift(number));
        }
        see("span", x -> x.addSpan(0, 0, 0, 9999));
        see("rule", x -> x.addRule(0, 0, 9999));
        see("join", x -> x.addJoin(0, 1, 2));
        see("held", x -> x.held(0));
        see("line", x -> x.addLine(0, 0));
        see("document", x -> x.addDocument());
    }
}
