import java.util.NoSuchElementException;

/**
 * A records office: documents with lines, rules and spans that hide lines, and askers who are given
 * only lines by which no hidden one could be told.
 *
 * <p>Sets of lines are kept as the bits of a long (line n is the bit n), which the 40 lines fit into,
 * so that no call makes a row of its own.
 */
public final class Archivepress {
    private static final int DOCUMENT_LIMIT = 8;
    private static final int LINE_LIMIT = 40;
    private static final int RULE_LIMIT = 8;
    private static final int SPAN_LIMIT = 12;
    private static final int JOIN_LIMIT = 10;
    private static final int REQUEST_LIMIT = 20;
    private static final int ASKER_COUNT = 5;
    // A line is given at most once to each asker, since it is held from then on.
    private static final int LOG_LIMIT = ASKER_COUNT * LINE_LIMIT;

    private static final int GREATEST_VALUE = 9999;
    private static final int GREATEST_INDEX = LINE_LIMIT - 1;
    private static final int LAST_DAY = 9999;
    private static final int LONGEST_PASS = 90;
    private static final int DAYS_IN_TIME = 20;
    private static final int FIRST_PRICE = 5;
    private static final int GREATEST_PRICE = 99;
    private static final int GREATEST_DEBT = 100;

    private static final char BY_RULE = 'r';
    private static final char BY_SPAN = 's';
    private static final char BY_JOIN = 'j';
    private static final char NOT_WITHHELD = '-';
    private static final char WAITS = 'w';
    private static final char ANSWERED = 'a';
    private static final char WITHDRAWN = 'x';

    private static final int NO_LINE = -1;
    // As the last day of a span: a lifted one is kept as one that ended before the first day.
    private static final int LIFTED = -1;

    private final Lines lineTable = new Lines();
    private final Rules rules = new Rules();
    private final Spans spans = new Spans();
    private final Joins joins = new Joins();
    private final Log log = new Log();
    private final Requests requests = new Requests();
    private final long[] heldLines = new long[ASKER_COUNT];
    private final int[] debts = new int[ASKER_COUNT];
    private int price = FIRST_PRICE;
    private int today;
    private long feeSum;

    public Archivepress() {
    }

    // Documents and lines.

    public int addDocument() throws IllegalStateException {
        return lineTable.appendDocument();
    }

    public int addLine(int document, int value)
            throws IndexOutOfBoundsException, IllegalArgumentException, IllegalStateException {
        requireDocument(document);
        requireValue(value);
        return lineTable.append(document, value);
    }

    public int rescan(int line, int value) throws IndexOutOfBoundsException, IllegalArgumentException {
        requireLine(line);
        requireValue(value);
        int before = lineTable.values[line];
        lineTable.values[line] = value;
        return before;
    }

    public int documentOf(int line) throws IndexOutOfBoundsException {
        requireLine(line);
        return lineTable.documents[line];
    }

    public int indexOf(int line) throws IndexOutOfBoundsException {
        requireLine(line);
        return lineTable.indexes[line];
    }

    public int lines(int document) throws IndexOutOfBoundsException {
        requireDocument(document);
        return lineTable.documentSizes[document];
    }

    // Rules, spans and joins.

    public int addRule(int first, int second, int last) throws IllegalArgumentException, IllegalStateException {
        requireValue(first);
        requireValue(second);
        requireRising(first, second);
        requireLastDay(last);
        return rules.append(first, second, last);
    }

    public int addSpan(int document, int first, int second, int last)
            throws IndexOutOfBoundsException, IllegalArgumentException, IllegalStateException {
        requireDocument(document);
        requireIndex(first);
        requireIndex(second);
        requireRising(first, second);
        requireLastDay(last);
        return spans.append(document, first, second, last);
    }

    public int lift(int span) throws IndexOutOfBoundsException, IllegalStateException {
        if (!spans.has(span)) {
            throw new IndexOutOfBoundsException("there is no such span");
        }
        if (today > spans.lasts[span]) {
            throw new IllegalStateException("the span was lifted or has ended");
        }
        int hiddenBefore = countHidden();
        spans.lasts[span] = LIFTED;
        return hiddenBefore - countHidden();
    }

    public boolean isHidden(int line) throws IndexOutOfBoundsException {
        requireLine(line);
        return isHiddenToday(line);
    }

    public int hidden() {
        return countHidden();
    }

    public int addJoin(int one, int other, int told)
            throws IndexOutOfBoundsException, IllegalArgumentException, IllegalStateException {
        requireLine(one);
        requireLine(other);
        requireLine(told);
        if (one == other || one == told || other == told) {
            throw new IllegalArgumentException("two of the lines are the same");
        }
        int join = joins.append(one, other, told);
        growAllHeld();
        return join;
    }

    // Askers.

    public boolean holds(int asker, int line) throws IllegalArgumentException, IndexOutOfBoundsException {
        requireAsker(asker);
        requireLine(line);
        return contains(heldLines[asker], line);
    }

    public boolean holdsByLog(int asker, int line) throws IllegalArgumentException, IndexOutOfBoundsException {
        requireAsker(asker);
        requireLine(line);
        return contains(joins.closure(log.linesGivenTo(asker)), line);
    }

    public int held(int asker) throws IllegalArgumentException {
        requireAsker(asker);
        return Long.bitCount(heldLines[asker]);
    }

    public int given(int asker) throws IllegalArgumentException {
        requireAsker(asker);
        return Long.bitCount(log.linesGivenTo(asker));
    }

    public int holders(int line) throws IndexOutOfBoundsException {
        requireLine(line);
        int count = 0;
        for (int asker = 0; asker < ASKER_COUNT; asker++) {
            if (contains(heldLines[asker], line)) {
                count++;
            }
        }
        return count;
    }

    public char why(int asker, int line)
            throws IllegalArgumentException, IndexOutOfBoundsException, IllegalStateException {
        requireNotHeld(asker, line);
        int protectedLine = findProtectedLine(asker, line);
        if (protectedLine == NO_LINE) {
            return NOT_WITHHELD;
        }
        if (protectedLine != line) {
            return BY_JOIN;
        }
        return isHiddenByRule(line) ? BY_RULE : BY_SPAN;
    }

    public char root(int asker, int line)
            throws IllegalArgumentException, IndexOutOfBoundsException, IllegalStateException,
            NoSuchElementException {
        requireNotHeld(asker, line);
        int protectedLine = findProtectedLine(asker, line);
        if (protectedLine == NO_LINE) {
            throw new NoSuchElementException("the line is not withheld");
        }
        return isHiddenBySpan(protectedLine) ? BY_SPAN : BY_RULE;
    }

    public int causes(int asker, int line)
            throws IllegalArgumentException, IndexOutOfBoundsException, IllegalStateException {
        requireNotHeld(asker, line);
        int protectedLine = findProtectedLine(asker, line);
        if (protectedLine == NO_LINE) {
            return 0;
        }
        int joinReasons = protectedLine == line ? 0 : 1;
        return joinReasons + countHidingReasons(protectedLine);
    }

    // Requests, fees and days.

    public int request(int asker, int document)
            throws IllegalArgumentException, IndexOutOfBoundsException, UnsupportedOperationException,
            IllegalStateException {
        requireAsker(asker);
        requireDocument(document);
        if (debts[asker] > GREATEST_DEBT) {
            throw new UnsupportedOperationException("the asker owes more than 100");
        }
        if (requests.isWaiting(asker, document)) {
            throw new IllegalStateException("a request of this asker for this document waits");
        }
        return requests.append(asker, document, today);
    }

    public char state(int request) throws IndexOutOfBoundsException {
        requireRequest(request);
        return requests.states[request];
    }

    public int answer(int request) throws IndexOutOfBoundsException, IllegalStateException {
        requireRequest(request);
        requireWaiting(request);
        requests.states[request] = ANSWERED;
        return giveDocument(requests.askers[request], requests.documents[request]);
    }

    public int withdraw(int request) throws IndexOutOfBoundsException, IllegalStateException {
        requireRequest(request);
        requireWaiting(request);
        requests.states[request] = WITHDRAWN;
        return requests.countInState(WAITS);
    }

    public int setPrice(int price) throws IllegalArgumentException {
        if (price < 0 || price > GREATEST_PRICE) {
            throw new IllegalArgumentException("the price is not between 0 and 99");
        }
        int before = this.price;
        this.price = price;
        return before;
    }

    public int owed(int asker) throws IllegalArgumentException {
        requireAsker(asker);
        return debts[asker];
    }

    public int pay(int asker, int sum) throws IllegalArgumentException {
        requireAsker(asker);
        if (sum < 1 || sum > debts[asker]) {
            throw new IllegalArgumentException("the sum is not between 1 and what the asker owes");
        }
        debts[asker] -= sum;
        return debts[asker];
    }

    public int pass(int days) throws IllegalArgumentException {
        if (days < 1 || days > LONGEST_PASS) {
            throw new IllegalArgumentException("the days are not between 1 and 90");
        }
        if (today + days > LAST_DAY) {
            throw new IllegalArgumentException("the day would be greater than 9999");
        }
        int lateBefore = requests.countLate(today);
        today += days;
        return requests.countLate(today) - lateBefore;
    }

    public int day() {
        return today;
    }

    public int late() {
        return requests.countLate(today);
    }

    public long fees() {
        return feeSum;
    }

    public float answeredShare() throws NoSuchElementException {
        int all = requests.count;
        if (all <= 0) {
            throw new NoSuchElementException("there are no requests");
        }
        return (float) requests.countInState(ANSWERED) / (float) all;
    }

    // What a call asks of its arguments.

    private void requireDocument(int document) {
        if (document < 0 || document >= lineTable.documentCount) {
            throw new IndexOutOfBoundsException("there is no such document");
        }
    }

    private void requireLine(int line) {
        if (line < 0 || line >= lineTable.count) {
            throw new IndexOutOfBoundsException("there is no such line");
        }
    }

    private void requireRequest(int request) {
        if (request < 0 || request >= requests.count) {
            throw new IndexOutOfBoundsException("there is no such request");
        }
    }

    private void requireWaiting(int request) {
        if (requests.states[request] != WAITS) {
            throw new IllegalStateException("the request does not wait");
        }
    }

    private static void requireAsker(int asker) {
        if (asker < 0 || asker >= ASKER_COUNT) {
            throw new IllegalArgumentException("there is no such asker");
        }
    }

    private void requireNotHeld(int asker, int line) {
        requireAsker(asker);
        requireLine(line);
        if (contains(heldLines[asker], line)) {
            throw new IllegalStateException("the asker holds the line");
        }
    }

    private static void requireValue(int value) {
        if (value < 0 || value > GREATEST_VALUE) {
            throw new IllegalArgumentException("a value is not between 0 and 9999");
        }
    }

    private static void requireIndex(int index) {
        if (index < 0 || index > GREATEST_INDEX) {
            throw new IllegalArgumentException("an index is not between 0 and 39");
        }
    }

    private static void requireRising(int first, int second) {
        if (second < first) {
            throw new IllegalArgumentException("the second one is less than the first one");
        }
    }

    private void requireLastDay(int last) {
        if (last < today || last > LAST_DAY) {
            throw new IllegalArgumentException("the last day is not between today and 9999");
        }
    }

    // What is hidden, withheld and held.

    private boolean isHiddenByRule(int line) {
        return rules.hide(lineTable.values[line], today);
    }

    private boolean isHiddenBySpan(int line) {
        return spans.hide(lineTable.documents[line], lineTable.indexes[line], today);
    }

    private boolean isHiddenToday(int line) {
        return isHiddenByRule(line) || isHiddenBySpan(line);
    }

    private int countHidden() {
        int count = 0;
        for (int line = 0; line < lineTable.count; line++) {
            if (isHiddenToday(line)) {
                count++;
            }
        }
        return count;
    }

    private int countHidingReasons(int line) {
        int byRule = isHiddenByRule(line) ? 1 : 0;
        int bySpan = isHiddenBySpan(line) ? 1 : 0;
        return byRule + bySpan;
    }

    /** The hidden line for whose sake a line is withheld, which may be this line itself, or NO_LINE. */
    private int findProtectedLine(int asker, int line) {
        if (isHiddenToday(line)) {
            return line;
        }
        long before = heldLines[asker];
        long after = joins.closure(before | bitOf(line));
        return findLowestHidden(after & ~before);
    }

    private int findLowestHidden(long among) {
        for (int line = 0; line < lineTable.count; line++) {
            if (contains(among, line) && isHiddenToday(line)) {
                return line;
            }
        }
        return NO_LINE;
    }

    private int giveDocument(int asker, int document) {
        int count = 0;
        // Lines of one document have rising indexes in the order of their numbers.
        for (int line = 0; line < lineTable.count; line++) {
            if (lineTable.documents[line] == document && !contains(heldLines[asker], line)
                    && findProtectedLine(asker, line) == NO_LINE) {
                give(asker, line);
                count++;
            }
        }
        return count;
    }

    private void give(int asker, int line) {
        log.append(asker, line);
        heldLines[asker] = joins.closure(heldLines[asker] | bitOf(line));
        debts[asker] += price;
        feeSum += price;
    }

    private void growAllHeld() {
        for (int asker = 0; asker < ASKER_COUNT; asker++) {
            heldLines[asker] = joins.closure(heldLines[asker]);
        }
    }

    private static long bitOf(int line) {
        return 1L << line;
    }

    private static boolean contains(long set, int line) {
        return (set & bitOf(line)) != 0L;
    }

    private static final class Lines {
        final int[] documentSizes = new int[DOCUMENT_LIMIT];
        final int[] documents = new int[LINE_LIMIT];
        final int[] indexes = new int[LINE_LIMIT];
        final int[] values = new int[LINE_LIMIT];
        int documentCount;
        int count;

        int appendDocument() {
            if (documentCount >= DOCUMENT_LIMIT) {
                throw new IllegalStateException("there are 8 documents");
            }
            documentCount++;
            return documentCount - 1;
        }

        int append(int document, int value) {
            if (count >= LINE_LIMIT) {
                throw new IllegalStateException("there are 40 lines");
            }
            documents[count] = document;
            indexes[count] = documentSizes[document];
            values[count] = value;
            documentSizes[document]++;
            count++;
            return count - 1;
        }
    }

    private static final class Rules {
        private final int[] firsts = new int[RULE_LIMIT];
        private final int[] seconds = new int[RULE_LIMIT];
        private final int[] lasts = new int[RULE_LIMIT];
        private int count;

        int append(int first, int second, int last) {
            if (count >= RULE_LIMIT) {
                throw new IllegalStateException("there are 8 rules");
            }
            firsts[count] = first;
            seconds[count] = second;
            lasts[count] = last;
            count++;
            return count - 1;
        }

        boolean hide(int value, int day) {
            for (int rule = 0; rule < count; rule++) {
                if (day <= lasts[rule] && firsts[rule] <= value && value <= seconds[rule]) {
                    return true;
                }
            }
            return false;
        }
    }

    private static final class Spans {
        private final int[] documents = new int[SPAN_LIMIT];
        private final int[] firsts = new int[SPAN_LIMIT];
        private final int[] seconds = new int[SPAN_LIMIT];
        final int[] lasts = new int[SPAN_LIMIT];
        private int count;

        int append(int document, int first, int second, int last) {
            if (count >= SPAN_LIMIT) {
                throw new IllegalStateException("there are 12 spans");
            }
            documents[count] = document;
            firsts[count] = first;
            seconds[count] = second;
            lasts[count] = last;
            count++;
            return count - 1;
        }

        boolean has(int span) {
            return span >= 0 && span < count;
        }

        boolean hide(int document, int index, int day) {
            for (int span = 0; span < count; span++) {
                if (day <= lasts[span] && documents[span] == document
                        && firsts[span] <= index && index <= seconds[span]) {
                    return true;
                }
            }
            return false;
        }
    }

    private static final class Joins {
        private final long[] pairs = new long[JOIN_LIMIT];
        private final long[] tolds = new long[JOIN_LIMIT];
        private int count;

        int append(int one, int other, int told) {
            if (count >= JOIN_LIMIT) {
                throw new IllegalStateException("there are 10 joins");
            }
            pairs[count] = bitOf(one) | bitOf(other);
            tolds[count] = bitOf(told);
            count++;
            return count - 1;
        }

        /** The lines of a set with all that they tell, and what is told with these, and so on. */
        long closure(long set) {
            long grown = set;
            // A round that adds a line uses up a join, so as many rounds as joins are enough.
            for (int round = 0; round < count; round++) {
                long before = grown;
                grown = addTold(grown);
                if (grown == before) {
                    return grown;
                }
            }
            return grown;
        }

        private long addTold(long set) {
            long grown = set;
            for (int join = 0; join < count; join++) {
                if ((grown & pairs[join]) == pairs[join]) {
                    grown |= tolds[join];
                }
            }
            return grown;
        }
    }

    private static final class Log {
        private final int[] askers = new int[LOG_LIMIT];
        private final int[] givenLines = new int[LOG_LIMIT];
        private int count;

        void append(int asker, int line) {
            if (count >= LOG_LIMIT) {
                return;
            }
            askers[count] = asker;
            givenLines[count] = line;
            count++;
        }

        long linesGivenTo(int asker) {
            long set = 0L;
            for (int entry = 0; entry < count; entry++) {
                if (askers[entry] == asker) {
                    set |= bitOf(givenLines[entry]);
                }
            }
            return set;
        }
    }

    private static final class Requests {
        final int[] askers = new int[REQUEST_LIMIT];
        final int[] documents = new int[REQUEST_LIMIT];
        final char[] states = new char[REQUEST_LIMIT];
        private final int[] madeOn = new int[REQUEST_LIMIT];
        int count;

        int append(int asker, int document, int day) {
            if (count >= REQUEST_LIMIT) {
                throw new IllegalStateException("there are 20 requests");
            }
            askers[count] = asker;
            documents[count] = document;
            states[count] = WAITS;
            madeOn[count] = day;
            count++;
            return count - 1;
        }

        boolean isWaiting(int asker, int document) {
            for (int request = 0; request < count; request++) {
                if (states[request] == WAITS && askers[request] == asker && documents[request] == document) {
                    return true;
                }
            }
            return false;
        }

        int countInState(char state) {
            int found = 0;
            for (int request = 0; request < count; request++) {
                if (states[request] == state) {
                    found++;
                }
            }
            return found;
        }

        int countLate(int day) {
            int found = 0;
            for (int request = 0; request < count; request++) {
                if (states[request] == WAITS && day - madeOn[request] > DAYS_IN_TIME) {
                    found++;
                }
            }
            return found;
        }
    }
}
