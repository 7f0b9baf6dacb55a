import java.util.NoSuchElementException;

/** What "Terms" says of exceptions: nothing changes, and the one that is listed first is thrown. */
public final class ExceptionsTest {
    private static final Class<IndexOutOfBoundsException> NO_SUCH = IndexOutOfBoundsException.class;
    private static final Class<IllegalArgumentException> WRONG = IllegalArgumentException.class;
    private static final Class<IllegalStateException> STATE = IllegalStateException.class;
    private static final Class<UnsupportedOperationException> DEBT = UnsupportedOperationException.class;
    private static final Class<NoSuchElementException> NONE = NoSuchElementException.class;

    private static final String NOTHING_CHANGES = "A method that throws an exception changes nothing.";
    private static final String FIRST_LISTED =
            "If several exceptions apply, the one that is listed first is thrown.";

    private static final Check check = new Check("ExceptionsTest", "Terms: Exceptions");

    public static void main(String[] args) {
        fullOffice();
        documentsChangeNothing();
        hidingChangesNothing();
        askersChangeNothing();
        requestsChangeNothing();
        emptyOfficeStaysEmpty();
        manyRefusalsChangeNothing();
        documentsInOrder();
        addRuleInOrder();
        addSpanInOrder();
        addJoinInOrder();
        askersInOrder();
        rootInOrder();
        requestInOrder();
        requestStateInOrder();
        check.end();
    }

    private static void fullOffice() {
        check.term("Exceptions", NOTHING_CHANGES);
        Archivepress x = Offices.full();
        check.same("asker 0 holds three lines", 3, x.held(0));
        check.same("and owes for them", 297, x.owed(0));
        check.same("lines are hidden", 8, x.hidden());
        check.same("requests wait", "aw" + "x", "" + x.state(0) + x.state(2) + x.state(1));
        check.same("the price is kept", 99, x.setPrice(99));
    }

    private static void unchanged(String what, Class<? extends RuntimeException> due, Check.Call call) {
        check.fails(what, due, Offices::full, call);
    }

    private static void documentsChangeNothing() {
        check.term("Exceptions", NOTHING_CHANGES);
        unchanged("promise 2, the ninth document", STATE, o -> o.addDocument());
        unchanged("promise 3, no document", NO_SUCH, o -> o.addLine(8, 0));
        unchanged("promise 3, no value", WRONG, o -> o.addLine(7, 10000));
        unchanged("promise 3, the line 41", STATE, o -> o.addLine(7, 9999));
        unchanged("promise 4, no line", NO_SUCH, o -> o.rescan(40, 1));
        unchanged("promise 4, no value", WRONG, o -> o.rescan(39, 10000));
        unchanged("promise 4, a value below", WRONG, o -> o.rescan(0, -1));
        unchanged("promise 5, no line", NO_SUCH, o -> o.documentOf(40));
        unchanged("promise 6, no line", NO_SUCH, o -> o.indexOf(40));
        unchanged("promise 7, no document", NO_SUCH, o -> o.lines(8));
    }

    private static void hidingChangesNothing() {
        check.term("Exceptions", NOTHING_CHANGES);
        unchanged("promise 8, falling values", WRONG, o -> o.addRule(1, 0, 9999));
        unchanged("promise 8, the ninth rule", STATE, o -> o.addRule(0, 9999, 9999));
        unchanged("promise 9, no document", NO_SUCH, o -> o.addSpan(8, 0, 39, 9999));
        unchanged("promise 9, falling indexes", WRONG, o -> o.addSpan(7, 1, 0, 9999));
        unchanged("promise 9, the thirteenth span", STATE, o -> o.addSpan(7, 0, 39, 9999));
        unchanged("promise 10, no span", NO_SUCH, o -> o.lift(12));
        unchanged("promise 10, lifted", STATE, o -> o.lift(0));
        unchanged("promise 10, its last day has passed", STATE, o -> o.lift(1));
        unchanged("promise 11, no line", NO_SUCH, o -> o.isHidden(40));
        unchanged("promise 13, no line", NO_SUCH, o -> o.addJoin(0, 1, 40));
        unchanged("promise 13, the same line", WRONG, o -> o.addJoin(0, 1, 0));
        unchanged("promise 13, the eleventh join", STATE, o -> o.addJoin(0, 8, 1));
    }

    private static void askersChangeNothing() {
        check.term("Exceptions", NOTHING_CHANGES);
        unchanged("promise 14, no asker", WRONG, o -> o.holds(5, 0));
        unchanged("promise 14, no line", NO_SUCH, o -> o.holds(0, 40));
        unchanged("promise 15, no asker", WRONG, o -> o.holdsByLog(5, 0));
        unchanged("promise 15, no line", NO_SUCH, o -> o.holdsByLog(0, 40));
        unchanged("promise 16, no asker", WRONG, o -> o.held(5));
        unchanged("promise 17, no asker", WRONG, o -> o.given(5));
        unchanged("promise 18, no line", NO_SUCH, o -> o.holders(40));
        unchanged("promise 19, no asker", WRONG, o -> o.why(5, 0));
        unchanged("promise 19, no line", NO_SUCH, o -> o.why(0, 40));
        unchanged("promise 19, held", STATE, o -> o.why(0, 0));
        unchanged("promise 20, no asker", WRONG, o -> o.root(5, 0));
        unchanged("promise 20, no line", NO_SUCH, o -> o.root(0, 40));
        unchanged("promise 20, held", STATE, o -> o.root(0, 0));
        unchanged("promise 20, not withheld", NONE, o -> o.root(1, 0));
        unchanged("promise 21, no asker", WRONG, o -> o.causes(5, 0));
        unchanged("promise 21, no line", NO_SUCH, o -> o.causes(0, 40));
        unchanged("promise 21, held", STATE, o -> o.causes(0, 0));
    }

    private static void requestsChangeNothing() {
        check.term("Exceptions", NOTHING_CHANGES);
        unchanged("promise 22, no asker", WRONG, o -> o.request(5, 7));
        unchanged("promise 22, no document", NO_SUCH, o -> o.request(1, 8));
        unchanged("promise 22, owes more than 100", DEBT, o -> o.request(0, 7));
        unchanged("promise 22, the request 21", STATE, o -> o.request(1, 7));
        unchanged("promise 23, no request", NO_SUCH, o -> o.state(20));
        unchanged("promise 24, no request", NO_SUCH, o -> o.answer(20));
        unchanged("promise 24, is answered", STATE, o -> o.answer(0));
        unchanged("promise 24, is withdrawn", STATE, o -> o.answer(1));
        unchanged("promise 25, no request", NO_SUCH, o -> o.withdraw(20));
        unchanged("promise 25, is answered", STATE, o -> o.withdraw(0));
        unchanged("promise 25, is withdrawn", STATE, o -> o.withdraw(1));
        unchanged("promise 26, below", WRONG, o -> o.setPrice(-1));
        unchanged("promise 26, above", WRONG, o -> o.setPrice(100));
        unchanged("promise 27, no asker", WRONG, o -> o.owed(5));
        unchanged("promise 28, no asker", WRONG, o -> o.pay(5, 1));
        unchanged("promise 28, nothing", WRONG, o -> o.pay(0, 0));
        unchanged("promise 28, too much", WRONG, o -> o.pay(0, 298));
        unchanged("promise 29, no day", WRONG, o -> o.pass(0));
        unchanged("promise 29, too many days", WRONG, o -> o.pass(91));
        check.fails("promise 29, beyond the last day", WRONG, () -> Offices.onDay(Offices.twoDocuments(), 9950),
                o -> o.pass(50));
        check.fails("promise 33, no request", NONE, Offices::twoDocuments, o -> o.answeredShare());
    }

    private static void emptyOfficeStaysEmpty() {
        check.term("Exceptions", NOTHING_CHANGES);
        check.fails("promise 3, no document", NO_SUCH, Offices::empty, o -> o.addLine(0, 0));
        check.fails("promise 4, no line", NO_SUCH, Offices::empty, o -> o.rescan(0, 0));
        check.fails("promise 9, no document", NO_SUCH, Offices::empty, o -> o.addSpan(0, 0, 0, 0));
        check.fails("promise 10, no span", NO_SUCH, Offices::empty, o -> o.lift(0));
        check.fails("promise 13, no lines", NO_SUCH, Offices::empty, o -> o.addJoin(0, 1, 2));
        check.fails("promise 22, no document", NO_SUCH, Offices::empty, o -> o.request(0, 0));
        check.fails("promise 24, no request", NO_SUCH, Offices::empty, o -> o.answer(0));
        check.fails("promise 25, no request", NO_SUCH, Offices::empty, o -> o.withdraw(0));
        check.fails("promise 28, nothing is owed", WRONG, Offices::empty, o -> o.pay(0, 1));
        check.fails("promise 33, no request", NONE, Offices::empty, o -> o.answeredShare());
    }

    /** One call of each that could count or write something before it refuses, thirty times over. */
    private static void manyRefusalsChangeNothing() {
        check.term("Exceptions", NOTHING_CHANGES);
        Archivepress x = Offices.twoDocuments();
        x.request(0, 0);
        x.answer(0);
        Check.Call[] calls = {o -> o.addLine(2, 0), o -> o.addLine(0, 10000), o -> o.addRule(5, 4, 0),
            o -> o.addSpan(0, 0, 40, 0), o -> o.addJoin(0, 1, 1), o -> o.request(0, 2), o -> o.answer(0),
            o -> o.withdraw(0), o -> o.pay(0, 16), o -> o.pass(91)};
        for (int round = 0; round < 30; round++) {
            for (Check.Call call : calls) {
                Check.answerOf(x, call);
            }
        }
        check.same("the next line", 4, x.addLine(0, 0));
        check.same("the next rule", 0, x.addRule(0, 9999, 0));
        check.same("the next span", 0, x.addSpan(0, 0, 39, 0));
        check.same("the next join", 0, x.addJoin(0, 1, 2));
        check.same("the next request", 1, x.request(0, 0));
        check.same("the share", 0.5f, x.answeredShare());
        check.same("owed", 15, x.owed(0));
        check.same("the day", 0, x.day());
    }

    private static void documentsInOrder() {
        check.term("Exceptions", FIRST_LISTED);
        check.fails("promise 3, document before value", NO_SUCH, Offices::twoDocuments, o -> o.addLine(2, -1));
        check.fails("promise 3, document before full", NO_SUCH, Offices::fullOfLines, o -> o.addLine(1, 0));
        check.fails("promise 3, value before full", WRONG, Offices::fullOfLines, o -> o.addLine(0, 10000));
        check.fails("promise 3, document before value and full", NO_SUCH, Offices::fullOfLines, o -> o.addLine(-1, -1));
        check.fails("promise 4, line before value", NO_SUCH, Offices::twoDocuments, o -> o.rescan(4, 10000));
        check.fails("promise 4, no line at all before value", NO_SUCH, Offices::empty, o -> o.rescan(0, -1));
    }

    private static void addRuleInOrder() {
        check.term("Exceptions", FIRST_LISTED);
        check.fails("promise 8, first value before full", WRONG, Offices::fullOfRules, o -> o.addRule(-1, 0, 9));
        check.fails("promise 8, second value before full", WRONG, Offices::fullOfRules, o -> o.addRule(0, 10000, 9));
        check.fails("promise 8, falling before full", WRONG, Offices::fullOfRules, o -> o.addRule(1, 0, 9));
        check.fails("promise 8, too early before full", WRONG, Offices::fullOfRules, o -> o.addRule(0, 1, -1));
        check.fails("promise 8, too late before full", WRONG, Offices::fullOfRules, o -> o.addRule(0, 1, 10000));
    }

    private static void addSpanInOrder() {
        check.term("Exceptions", FIRST_LISTED);
        check.fails("promise 9, document before first index", NO_SUCH, Offices::twoDocuments,
                o -> o.addSpan(2, -1, 0, 9));
        check.fails("promise 9, document before second index", NO_SUCH, Offices::twoDocuments,
                o -> o.addSpan(2, 0, 40, 9));
        check.fails("promise 9, document before falling", NO_SUCH, Offices::twoDocuments, o -> o.addSpan(2, 1, 0, 9));
        check.fails("promise 9, document before day", NO_SUCH, Offices::twoDocuments, o -> o.addSpan(2, 0, 1, 10000));
        check.fails("promise 9, document before full", NO_SUCH, Offices::fullOfSpans, o -> o.addSpan(1, 0, 1, 9));
        check.fails("promise 9, document before all", NO_SUCH, Offices::fullOfSpans, o -> o.addSpan(1, 1, 0, -1));
        check.fails("promise 9, first index before full", WRONG, Offices::fullOfSpans, o -> o.addSpan(0, -1, 0, 9));
        check.fails("promise 9, second index before full", WRONG, Offices::fullOfSpans, o -> o.addSpan(0, 0, 40, 9));
        check.fails("promise 9, falling before full", WRONG, Offices::fullOfSpans, o -> o.addSpan(0, 1, 0, 9));
        check.fails("promise 9, too early before full", WRONG, Offices::fullOfSpans, o -> o.addSpan(0, 0, 1, -1));
        check.fails("promise 9, too late before full", WRONG, Offices::fullOfSpans, o -> o.addSpan(0, 0, 1, 10000));
    }

    private static void addJoinInOrder() {
        check.term("Exceptions", FIRST_LISTED);
        check.fails("promise 13, told before same", NO_SUCH, Offices::twoDocuments, o -> o.addJoin(1, 1, 4));
        check.fails("promise 13, other before same", NO_SUCH, Offices::twoDocuments, o -> o.addJoin(1, 4, 1));
        check.fails("promise 13, one before same", NO_SUCH, Offices::twoDocuments, o -> o.addJoin(4, 1, 1));
        check.fails("promise 13, the same line that is not there", NO_SUCH, Offices::twoDocuments,
                o -> o.addJoin(4, 4, 1));
        check.fails("promise 13, one before full", NO_SUCH, Offices::fullOfJoins, o -> o.addJoin(6, 0, 1));
        check.fails("promise 13, other before full", NO_SUCH, Offices::fullOfJoins, o -> o.addJoin(0, 6, 1));
        check.fails("promise 13, told before full", NO_SUCH, Offices::fullOfJoins, o -> o.addJoin(0, 1, 6));
        check.fails("promise 13, line before same and full", NO_SUCH, Offices::fullOfJoins, o -> o.addJoin(0, 0, 6));
        check.fails("promise 13, same before full", WRONG, Offices::fullOfJoins, o -> o.addJoin(0, 1, 1));
        check.fails("promise 13, no line at all before same", NO_SUCH, Offices::empty, o -> o.addJoin(0, 0, 0));
    }

    private static void askersInOrder() {
        check.term("Exceptions", FIRST_LISTED);
        check.fails("promise 14, asker before line", WRONG, Offices::twoDocuments, o -> o.holds(5, 4));
        check.fails("promise 15, asker before line", WRONG, Offices::twoDocuments, o -> o.holdsByLog(5, 4));
        check.fails("promise 19, asker before line", WRONG, Offices::twoDocuments, o -> o.why(5, 4));
        check.fails("promise 20, asker before line", WRONG, Offices::twoDocuments, o -> o.root(5, 4));
        check.fails("promise 21, asker before line", WRONG, Offices::twoDocuments, o -> o.causes(5, 4));
        check.fails("promise 14, asker before no line at all", WRONG, Offices::empty, o -> o.holds(-1, 0));
        check.fails("promise 15, asker before no line at all", WRONG, Offices::empty, o -> o.holdsByLog(-1, 0));
        check.fails("promise 19, asker before no line at all", WRONG, Offices::empty, o -> o.why(-1, 0));
        check.fails("promise 20, asker before no line at all", WRONG, Offices::empty, o -> o.root(-1, 0));
        check.fails("promise 21, asker before no line at all", WRONG, Offices::empty, o -> o.causes(-1, 0));
    }

    private static Archivepress allHeld() {
        Archivepress x = Offices.twoDocuments();
        Offices.give(x, 2, 0);
        return x;
    }

    private static Archivepress allHeldAndHidden() {
        Archivepress x = allHeld();
        x.addRule(0, 9999, 9999);
        return x;
    }

    private static void rootInOrder() {
        check.term("Exceptions", FIRST_LISTED);
        check.fails("promise 20, held before not withheld", STATE, ExceptionsTest::allHeld, o -> o.root(2, 0));
        check.fails("promise 20, held, though hidden", STATE, ExceptionsTest::allHeldAndHidden, o -> o.root(2, 0));
        check.fails("promise 20, not held, not withheld", NONE, ExceptionsTest::allHeld, o -> o.root(2, 2));
    }

    /** Asker 3 owes 102, and has a request that waits for document 1. */
    private static Archivepress debtorWaits() {
        Archivepress x = Offices.withDocuments(2);
        x.addLine(0, 1);
        x.addLine(0, 2);
        x.setPrice(51);
        x.request(3, 1);
        Offices.give(x, 3, 0);
        return x;
    }

    private static void requestInOrder() {
        check.term("Exceptions", FIRST_LISTED);
        check.fails("promise 22, asker before document", WRONG, Offices::twoDocuments, o -> o.request(5, 2));
        check.fails("promise 22, asker before full", WRONG, Offices::fullOfRequests, o -> o.request(5, 4));
        check.fails("promise 22, asker before document and full", WRONG, Offices::full, o -> o.request(-1, 8));
        check.fails("promise 22, document before debt", NO_SUCH, ExceptionsTest::debtorWaits, o -> o.request(3, 2));
        check.fails("promise 22, document before full", NO_SUCH, Offices::fullOfRequests, o -> o.request(0, 5));
        check.fails("promise 22, document before debt and full", NO_SUCH, Offices::full, o -> o.request(0, 8));
        check.fails("promise 22, debt before one that waits", DEBT, ExceptionsTest::debtorWaits, o -> o.request(3, 1));
        check.fails("promise 22, debt before full", DEBT, Offices::full, o -> o.request(0, 0));
        check.fails("promise 22, debt before full and one that waits", DEBT, Offices::full, o -> o.request(0, 1));
        check.fails("promise 22, full and one that waits", STATE, Offices::full, o -> o.request(2, 0));
    }

    private static void requestStateInOrder() {
        check.term("Exceptions", FIRST_LISTED);
        check.fails("promise 24, no request at all", NO_SUCH, Offices::twoDocuments, o -> o.answer(0));
        check.fails("promise 25, no request at all", NO_SUCH, Offices::twoDocuments, o -> o.withdraw(0));
        check.fails("promise 28, no asker, and no sum", WRONG, Offices::twoDocuments, o -> o.pay(5, 0));
        check.fails("promise 29, too many days beyond the last one", WRONG,
                () -> Offices.onDay(Offices.twoDocuments(), 9999), o -> o.pass(91));
    }
}
