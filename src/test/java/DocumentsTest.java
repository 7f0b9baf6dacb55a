/** Promises 1 to 7: a new office, documents and lines. */
public final class DocumentsTest {
    private static final Class<IndexOutOfBoundsException> NO_SUCH = IndexOutOfBoundsException.class;
    private static final Class<IllegalArgumentException> WRONG = IllegalArgumentException.class;
    private static final Class<IllegalStateException> FULL = IllegalStateException.class;

    private static final Check check = Check.ofPromises("DocumentsTest", 1, 7);

    public static void main(String[] args) {
        newOffice();
        newOfficesOnTheirOwn();
        addDocument();
        addDocumentReturns();
        addDocumentFull();
        addLine();
        addLineReturns();
        addLineNoDocument();
        addLineWrongValue();
        addLineFull();
        rescan();
        rescanReturns();
        rescanNoLine();
        rescanWrongValue();
        documentOf();
        documentOfReturns();
        documentOfNoLine();
        indexOf();
        indexOfReturns();
        indexOfNoLine();
        linesOf();
        linesOfReturns();
        linesOfNoDocument();
        check.end();
    }

    private static void newOffice() {
        check.promise(1, "Creates an office without documents, on the day 0.");
        Archivepress x = new Archivepress();
        check.same("day", 0, x.day());
        check.same("hidden", 0, x.hidden());
        check.same("late", 0, x.late());
        check.same("fees", 0L, x.fees());
        for (int asker = 0; asker < 5; asker++) {
            check.same("held", 0, x.held(asker));
            check.same("given", 0, x.given(asker));
            check.same("owed", 0, x.owed(asker));
        }
        check.fails("no document", NO_SUCH, Offices::empty, o -> o.lines(0));
        check.fails("no line", NO_SUCH, Offices::empty, o -> o.isHidden(0));
        check.fails("no request", NO_SUCH, Offices::empty, o -> o.state(0));
        check.fails("no span", NO_SUCH, Offices::empty, o -> o.lift(0));
        check.same("no rule", 0, x.addRule(0, 0, 0));
        check.same("the price", 5, x.setPrice(7));
    }

    private static void newOfficesOnTheirOwn() {
        check.promise(1, "Creates an office without documents, on the day 0.");
        Archivepress x = Offices.full();
        Archivepress y = new Archivepress();
        check.same("another office has its own documents", 0, y.addDocument());
        check.same("its own lines", 0, y.addLine(0, 1600));
        check.same("its own hidden lines", 0, y.hidden());
        check.same("its own askers", 0, y.held(0));
        check.same("its own requests", 0, y.request(0, 0));
        check.same("its own days", 0, y.day());
        check.same("its own fees", 0L, y.fees());
        check.same("its own price", 5, y.setPrice(1));
        check.same("and leaves the other one alone", 99, x.setPrice(1));
    }

    private static void addDocument() {
        check.promise(2, "Adds a document.");
        Archivepress x = new Archivepress();
        for (int document = 0; document < 8; document++) {
            int added = document;
            check.fails("not there yet", NO_SUCH, () -> Offices.withDocuments(added), o -> o.lines(added));
            x.addDocument();
            check.same("without lines", 0, x.lines(document));
            check.same("takes lines", document, x.addLine(document, 0));
        }
    }

    private static void addDocumentReturns() {
        check.promise(2, "Returns the number of the document.");
        Archivepress x = new Archivepress();
        for (int document = 0; document < 8; document++) {
            check.same("addDocument", document, x.addDocument());
        }
        Archivepress y = Offices.twoDocuments();
        check.same("lines do not count", 2, y.addDocument());
    }

    private static void addDocumentFull() {
        check.refusal(2, FULL, "there are 8 documents");
        check.same("the last one that goes in", 7, Offices.withDocuments(7).addDocument());
        check.refused("the ninth", Offices::fullOfDocuments, o -> o.addDocument());
        check.refused("the ninth in a full office", Offices::full, o -> o.addDocument());
    }

    private static void addLine() {
        check.promise(3, "Adds a line to a document.");
        Archivepress x = Offices.withDocuments(2);
        x.addLine(1, 0);
        x.addLine(0, 9999);
        check.same("the document of the first one", 1, x.documentOf(0));
        check.same("the document of the second one", 0, x.documentOf(1));
        check.same("the value 0 is kept", 0, x.rescan(0, 1));
        check.same("the value 9999 is kept", 9999, x.rescan(1, 1));
        check.same("lines of document 0", 1, x.lines(0));
        for (int line = 2; line < 40; line++) {
            x.addLine(line % 2, line);
        }
        check.same("lines of document 0", 20, x.lines(0));
        check.same("lines of document 1", 20, x.lines(1));
    }

    private static void addLineReturns() {
        check.promise(3, "Returns the number of the line.");
        Archivepress x = Offices.withDocuments(8);
        for (int line = 0; line < 40; line++) {
            check.same("addLine", line, x.addLine(line % 8, line));
        }
    }

    private static void addLineNoDocument() {
        check.refusal(3, NO_SUCH, "there is no such document");
        for (int document : Offices.beyond(2)) {
            check.refused("of two, " + document, Offices::twoDocuments, o -> o.addLine(document, 5));
        }
        for (int document : Offices.beyond(8)) {
            check.refused("of eight, " + document, Offices::fullOfDocuments, o -> o.addLine(document, 5));
        }
        check.refused("no document at all", Offices::empty, o -> o.addLine(0, 5));
        check.same("the first document", 4, Offices.twoDocuments().addLine(0, 5));
        check.same("the last document", 4, Offices.twoDocuments().addLine(1, 5));
        check.same("the last of eight", 0, Offices.fullOfDocuments().addLine(7, 5));
    }

    private static void addLineWrongValue() {
        check.refusal(3, WRONG, "the value is not between 0 and 9999");
        for (int value : Offices.outside(9999)) {
            check.refused("value " + value, Offices::twoDocuments, o -> o.addLine(0, value));
        }
        check.same("the least value", 4, Offices.twoDocuments().addLine(0, 0));
        check.same("the greatest value", 4, Offices.twoDocuments().addLine(0, 9999));
    }

    private static void addLineFull() {
        check.refusal(3, FULL, "there are 40 lines");
        check.same("the last one that goes in", 39, Offices.withLines(39).addLine(0, 5));
        check.refused("the line 41", Offices::fullOfLines, o -> o.addLine(0, 5));
        for (int i = 0; i < 8; i++) {
            int document = i;
            check.refused("the line 41, in document " + i, Offices::full, o -> o.addLine(document, 5));
        }
    }

    private static void rescan() {
        check.promise(4, "Scans a line anew.");
        Archivepress x = Offices.withLines(2);
        x.addRule(56, 60, 9999);
        check.same("before", false, x.isHidden(0));
        x.rescan(0, 57);
        check.same("a new value is hidden", true, x.isHidden(0));
        check.same("the other line is not", false, x.isHidden(1));
        x.rescan(0, 61);
        check.same("and not any more", false, x.isHidden(0));
        x.rescan(0, 56);
        check.same("and again", true, x.isHidden(0));
        check.same("it is in its document still", 0, x.documentOf(0));
        check.same("and has its index still", 0, x.indexOf(0));
        check.same("no line was added", 2, x.lines(0));
    }

    private static void rescanReturns() {
        check.promise(4, "Returns the value before.");
        Archivepress x = Offices.withLines(40);
        check.same("of the first line", 10, x.rescan(0, 0));
        check.same("of 0", 0, x.rescan(0, 9999));
        check.same("of 9999", 9999, x.rescan(0, 55));
        check.same("the same value again", 55, x.rescan(0, 55));
        check.same("and again", 55, x.rescan(0, 1));
        check.same("of the other line", 20, x.rescan(1, 55));
        check.same("of the last line", 400, x.rescan(39, 55));
    }

    private static void rescanNoLine() {
        check.refusal(4, NO_SUCH, "there is no such line");
        for (int line : Offices.beyond(4)) {
            check.refused("of four, " + line, Offices::twoDocuments, o -> o.rescan(line, 5));
        }
        for (int line : Offices.beyond(40)) {
            check.refused("of forty, " + line, Offices::fullOfLines, o -> o.rescan(line, 5));
        }
        check.refused("no line at all", Offices::fullOfDocuments, o -> o.rescan(0, 5));
    }

    private static void rescanWrongValue() {
        check.refusal(4, WRONG, "the value is not between 0 and 9999");
        for (int value : Offices.outside(9999)) {
            check.refused("value " + value, Offices::twoDocuments, o -> o.rescan(3, value));
        }
        check.same("the least value", 3, Offices.twoDocuments().rescan(3, 0));
        check.same("the greatest value", 3, Offices.twoDocuments().rescan(3, 9999));
    }

    private static void documentOf() {
        check.promise(5, "Returns the document of a line.");
        Archivepress x = Offices.twoDocuments();
        int[] documents = {0, 0, 1, 0};
        for (int line = 0; line < 4; line++) {
            check.same("documentOf " + line, documents[line], x.documentOf(line));
        }
    }

    private static void documentOfReturns() {
        check.promise(5, "Returns the number of the document.");
        Archivepress x = Offices.full();
        for (int line = 0; line < 40; line++) {
            check.same("documentOf " + line, line % 8, x.documentOf(line));
        }
    }

    private static void documentOfNoLine() {
        check.refusal(5, NO_SUCH, "there is no such line");
        for (int line : Offices.beyond(4)) {
            check.refused("of four, " + line, Offices::twoDocuments, o -> o.documentOf(line));
        }
        for (int line : Offices.beyond(40)) {
            check.refused("of forty, " + line, Offices::fullOfLines, o -> o.documentOf(line));
        }
        check.refused("no line at all", Offices::fullOfDocuments, o -> o.documentOf(0));
    }

    private static void indexOf() {
        check.promise(6, "Returns the index of a line in its document.");
        Archivepress x = Offices.twoDocuments();
        int[] indexes = {0, 1, 0, 2};
        for (int line = 0; line < 4; line++) {
            check.same("indexOf " + line, indexes[line], x.indexOf(line));
        }
    }

    private static void indexOfReturns() {
        check.promise(6, "Returns the index.");
        Archivepress x = Offices.fullOfLines();
        for (int line = 0; line < 40; line++) {
            check.same("indexOf " + line, line, x.indexOf(line));
        }
    }

    private static void indexOfNoLine() {
        check.refusal(6, NO_SUCH, "there is no such line");
        for (int line : Offices.beyond(4)) {
            check.refused("of four, " + line, Offices::twoDocuments, o -> o.indexOf(line));
        }
        for (int line : Offices.beyond(40)) {
            check.refused("of forty, " + line, Offices::fullOfLines, o -> o.indexOf(line));
        }
        check.refused("no line at all", Offices::fullOfDocuments, o -> o.indexOf(0));
    }

    private static void linesOf() {
        check.promise(7, "Returns the number of lines of a document.");
        Archivepress x = Offices.twoDocuments();
        check.same("lines(0)", 3, x.lines(0));
        check.same("lines(1)", 1, x.lines(1));
        x.addDocument();
        check.same("no line", 0, x.lines(2));
    }

    private static void linesOfReturns() {
        check.promise(7, "Returns the number of lines.");
        Archivepress x = Offices.fullOfDocuments();
        for (int line = 0; line < 40; line++) {
            x.addLine(7, 5);
            check.same("the last document grows", line + 1, x.lines(7));
        }
        for (int document = 0; document < 7; document++) {
            check.same("the others do not", 0, x.lines(document));
        }
    }

    private static void linesOfNoDocument() {
        check.refusal(7, NO_SUCH, "there is no such document");
        for (int document : Offices.beyond(2)) {
            check.refused("of two, " + document, Offices::twoDocuments, o -> o.lines(document));
        }
        for (int document : Offices.beyond(8)) {
            check.refused("of eight, " + document, Offices::fullOfDocuments, o -> o.lines(document));
        }
        check.refused("no document at all", Offices::empty, o -> o.lines(0));
    }
}
