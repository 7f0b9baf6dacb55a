/** Offices that several tests begin with. */
final class Offices {
    /** The calls that full makes. */
    static final int CALLS_OF_FULL = 103;

    private Offices() {
    }

    /** The numbers beside 0 to count - 1: just outside, far outside, and those that wrap around in a long's bits. */
    static int[] beyond(int count) {
        return new int[] {-1, count, -64, 64, 64 + count, Integer.MIN_VALUE, Integer.MAX_VALUE};
    }

    /** The numbers beside 0 to greatest, for values that are higher than 64. */
    static int[] outside(int greatest) {
        return new int[] {-1, greatest + 1, Integer.MIN_VALUE, Integer.MAX_VALUE};
    }

    static Archivepress empty() {
        return new Archivepress();
    }

    static Archivepress withDocuments(int n) {
        Archivepress x = new Archivepress();
        for (int document = 0; document < n; document++) {
            x.addDocument();
        }
        return x;
    }

    /** One document with the lines 0 to n - 1, of the values 10, 20, 30 and so on. */
    static Archivepress withLines(int n) {
        Archivepress x = withDocuments(1);
        for (int line = 0; line < n; line++) {
            x.addLine(0, 10 * (line + 1));
        }
        return x;
    }

    /** Documents 0 and 1; the lines 0, 1 and 3 in document 0, 2 in document 1; line n has the value n. */
    static Archivepress twoDocuments() {
        Archivepress x = withDocuments(2);
        x.addLine(0, 0);
        x.addLine(0, 1);
        x.addLine(1, 2);
        x.addLine(0, 3);
        return x;
    }

    /** Five lines in document 0, and a sixth, of the number 5, in document 1, which asker 0 holds. */
    static Archivepress withKey() {
        Archivepress x = withLines(5);
        x.addDocument();
        x.addLine(1, 5000);
        give(x, 0, 1);
        return x;
    }

    static Archivepress fullOfDocuments() {
        return withDocuments(8);
    }

    static Archivepress fullOfLines() {
        return withLines(40);
    }

    static Archivepress fullOfRules() {
        Archivepress x = withLines(3);
        for (int i = 0; i < 8; i++) {
            x.addRule(i, i, i);
        }
        return x;
    }

    static Archivepress fullOfSpans() {
        Archivepress x = withLines(3);
        for (int i = 0; i < 12; i++) {
            x.addSpan(0, 5, 5, i);
        }
        return x;
    }

    static Archivepress fullOfJoins() {
        Archivepress x = withLines(6);
        for (int i = 0; i < 10; i++) {
            x.addJoin(3, 4, 5);
        }
        return x;
    }

    /** Twenty requests, one that waits for each pair of an asker and one of four documents out of five. */
    static Archivepress fullOfRequests() {
        Archivepress x = withDocuments(5);
        for (int request = 0; request < 20; request++) {
            x.request(request % 5, request / 5);
        }
        return x;
    }

    /**
     * As much of each kind as there may be, on the day 3. Line n is in document n % 8; asker 0 holds line 0
     * and owes 297, request 1 is withdrawn, span 0 is lifted, and span 1 has ended.
     */
    static Archivepress full() {
        Archivepress x = fullOfDocuments();
        for (int line = 0; line < 40; line++) {
            x.addLine(line % 8, 100 * line);
        }
        for (int i = 0; i < 8; i++) {
            x.addRule(1600 + i, 1600 + 10 * i, 10 * i);
        }
        for (int i = 0; i < 12; i++) {
            x.addSpan(i % 8, 4, 39, i == 1 ? 2 : 20 + i);
        }
        for (int i = 0; i < 10; i++) {
            x.addJoin(i, 10 + i, 20 + i);
        }
        for (int request = 0; request < 20; request++) {
            x.request(request % 5, request / 5);
        }
        x.setPrice(99);
        x.answer(0);
        x.withdraw(1);
        x.lift(0);
        x.pass(3);
        return x;
    }

    /** Asker 3 owes the debt, which is at most 198, has no request that waits, and holds all lines. */
    static Archivepress withDebt(int debt) {
        Archivepress x = withDocuments(3);
        x.addLine(0, 1);
        x.addLine(1, 2);
        x.setPrice(debt / 2);
        give(x, 3, 0);
        x.setPrice(debt - debt / 2);
        give(x, 3, 1);
        return x;
    }

    /** Lets days pass until the day is the one that is asked for. */
    static Archivepress onDay(Archivepress x, int day) {
        while (x.day() < day) {
            x.pass(Math.min(90, day - x.day()));
        }
        return x;
    }

    /** Requests the document for the asker and answers at once. */
    static int give(Archivepress x, int asker, int document) {
        return x.answer(x.request(asker, document));
    }
}
