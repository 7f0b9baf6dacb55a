/** Offices that several tests begin with. */
final class Offices {
    private Offices() {
    }

    static Archivepress empty() {
        return new Archivepress();
    }

    /** One document with the lines 0 to n - 1, of the values 10, 20, 30 and so on. */
    static Archivepress withLines(int n) {
        Archivepress x = new Archivepress();
        x.addDocument();
        for (int line = 0; line < n; line++) {
            x.addLine(0, 10 * (line + 1));
        }
        return x;
    }

    /** Documents 0 and 1; the lines 0, 1 and 3 in document 0, 2 in document 1; line n has the value n. */
    static Archivepress twoDocuments() {
        Archivepress x = new Archivepress();
        x.addDocument();
        x.addDocument();
        x.addLine(0, 0);
        x.addLine(0, 1);
        x.addLine(1, 2);
        x.addLine(0, 3);
        return x;
    }

    /** Lets days pass until the day is the one that is asked for. */
    static Archivepress onDay(Archivepress x, int day) {
        while (x.day() < day) {
            x.pass(Math.min(90, day - x.day()));
        }
        return x;
    }

    /** Requests the document for the asker and answers at once. */
    static int give(Archivepress x, int asker, int document) {
        return x.answer(x.request(asker, document));
    }
}
