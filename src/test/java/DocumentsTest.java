/** Promises 1 to 7: a new office, documents and lines. */
public final class DocumentsTest {
    private static final Class<IndexOutOfBoundsException> NO_SUCH = IndexOutOfBoundsException.class;
    private static final Class<IllegalArgumentException> WRONG = IllegalArgumentException.class;
    private static final Class<IllegalStateException> FULL = IllegalStateException.class;
    private static final int[] FAR = {-1, Integer.MIN_VALUE, Integer.MAX_VALUE};

    private static final Check check = new Check("DocumentsTest");

    public static void main(String[] args) {
        newOffice();
        addDocument();
        addLine();
        addLineWrong();
        rescan();
        whereLinesAre();
        check.end();
    }

    private static Archivepress fullOfLines() {
        return Offices.withLines(40);
    }

    private static Archivepress fullOfDocuments() {
        Archivepress x = new Archivepress();
        for (int i = 0; i < 8; i++) {
            x.addDocument();
        }
        return x;
    }

    private static void newOffice() {
        Archivepress x = new Archivepress();
        check.same("1 day", 0, x.day());
        check.same("1 hidden", 0, x.hidden());
        check.same("1 late", 0, x.late());
        check.same("1 fees", 0L, x.fees());
        for (int asker = 0; asker < 5; asker++) {
            check.same("1 held", 0, x.held(asker));
            check.same("1 given", 0, x.given(asker));
            check.same("1 owed", 0, x.owed(asker));
        }
        check.fails("1 lines(0)", NO_SUCH, Offices::empty, o -> o.lines(0));
        check.fails("1 isHidden(0)", NO_SUCH, Offices::empty, o -> o.isHidden(0));
        check.fails("1 state(0)", NO_SUCH, Offices::empty, o -> o.state(0));
        check.fails("1 lift(0)", NO_SUCH, Offices::empty, o -> o.lift(0));
        check.same("1 price", 5, x.setPrice(7));
        x.addDocument();
        check.same("1 another office has its own documents", 0, new Archivepress().addDocument());
        check.same("1 another office has its own price", 5, new Archivepress().setPrice(1));
    }

    private static void addDocument() {
        Archivepress x = new Archivepress();
        for (int i = 0; i < 8; i++) {
            check.same("2 addDocument", i, x.addDocument());
            check.same("2 a new document has no lines", 0, x.lines(i));
        }
        check.fails("2 addDocument, the ninth", FULL, DocumentsTest::fullOfDocuments, o -> o.addDocument());
    }

    private static void addLine() {
        Archivepress x = new Archivepress();
        x.addDocument();
        x.addDocument();
        check.same("3 addLine, the first", 0, x.addLine(1, 0));
        check.same("3 addLine, the greatest value", 1, x.addLine(0, 9999));
        check.same("3 the value 0 is kept", 0, x.rescan(0, 1));
        check.same("3 the value 9999 is kept", 9999, x.rescan(1, 1));
        for (int line = 2; line < 40; line++) {
            check.same("3 addLine", line, x.addLine(line % 2, line));
        }
        check.same("3 lines of document 0", 20, x.lines(0));
        check.same("3 lines of document 1", 20, x.lines(1));
    }

    private static void addLineWrong() {
        for (int document : FAR) {
            check.fails("3 no such document", NO_SUCH, Offices::twoDocuments, o -> o.addLine(document, 5));
        }
        check.fails("3 the document after the last", NO_SUCH, Offices::twoDocuments, o -> o.addLine(2, 5));
        check.fails("3 no document at all", NO_SUCH, Offices::empty, o -> o.addLine(0, 5));
        for (int value : new int[] {-1, 10000, Integer.MIN_VALUE, Integer.MAX_VALUE}) {
            check.fails("3 wrong value", WRONG, Offices::twoDocuments, o -> o.addLine(0, value));
            check.fails("3 document before value", NO_SUCH, Offices::twoDocuments, o -> o.addLine(2, value));
            check.fails("3 value before full", WRONG, DocumentsTest::fullOfLines, o -> o.addLine(0, value));
        }
        check.fails("3 the line 41", FULL, DocumentsTest::fullOfLines, o -> o.addLine(0, 5));
        check.fails("3 document before full", NO_SUCH, DocumentsTest::fullOfLines, o -> o.addLine(1, 5));
    }

    private static void rescan() {
        Archivepress x = Offices.withLines(2);
        check.same("4 rescan", 10, x.rescan(0, 0));
        check.same("4 rescan of 0", 0, x.rescan(0, 9999));
        check.same("4 rescan of 9999", 9999, x.rescan(0, 55));
        check.same("4 the other line", 20, x.rescan(1, 55));
        x.addRule(56, 60, 9999);
        check.same("4 before", false, x.isHidden(0));
        x.rescan(0, 57);
        check.same("4 a new value is hidden", true, x.isHidden(0));
        check.same("4 the other line is not", false, x.isHidden(1));
        x.rescan(0, 61);
        check.same("4 and not any more", false, x.isHidden(0));
        for (int line : FAR) {
            check.fails("4 no such line", NO_SUCH, Offices::twoDocuments, o -> o.rescan(line, 5));
        }
        check.fails("4 the line after the last", NO_SUCH, Offices::twoDocuments, o -> o.rescan(4, 5));
        check.fails("4 line before value", NO_SUCH, Offices::twoDocuments, o -> o.rescan(4, -1));
        check.fails("4 line 40", NO_SUCH, DocumentsTest::fullOfLines, o -> o.rescan(40, 5));
        check.fails("4 value below", WRONG, Offices::twoDocuments, o -> o.rescan(3, -1));
        check.fails("4 value above", WRONG, Offices::twoDocuments, o -> o.rescan(3, 10000));
    }

    private static void whereLinesAre() {
        Archivepress x = Offices.twoDocuments();
        int[] documents = {0, 0, 1, 0};
        int[] indexes = {0, 1, 0, 2};
        for (int line = 0; line < 4; line++) {
            check.same("5 documentOf " + line, documents[line], x.documentOf(line));
            check.same("6 indexOf " + line, indexes[line], x.indexOf(line));
        }
        check.same("7 lines(0)", 3, x.lines(0));
        check.same("7 lines(1)", 1, x.lines(1));
        check.same("6 the last index", 39, fullOfLines().indexOf(39));
        check.same("7 the most lines", 40, fullOfLines().lines(0));
        for (int number : FAR) {
            check.fails("5 no such line", NO_SUCH, Offices::twoDocuments, o -> o.documentOf(number));
            check.fails("6 no such line", NO_SUCH, Offices::twoDocuments, o -> o.indexOf(number));
            check.fails("7 no such document", NO_SUCH, Offices::twoDocuments, o -> o.lines(number));
        }
        check.fails("5 the line after the last", NO_SUCH, Offices::twoDocuments, o -> o.documentOf(4));
        check.fails("6 the line after the last", NO_SUCH, Offices::twoDocuments, o -> o.indexOf(4));
        check.fails("7 the document after the last", NO_SUCH, Offices::twoDocuments, o -> o.lines(2));
        check.fails("5 line 40", NO_SUCH, DocumentsTest::fullOfLines, o -> o.documentOf(40));
        check.fails("6 line 40", NO_SUCH, DocumentsTest::fullOfLines, o -> o.indexOf(40));
        check.fails("7 document 8", NO_SUCH, DocumentsTest::fullOfDocuments, o -> o.lines(8));
    }
}
