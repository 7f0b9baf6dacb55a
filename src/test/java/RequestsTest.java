import java.util.NoSuchElementException;

/** Promises 22 to 33: requests, fees and days. */
public final class RequestsTest {
    private static final Class<IndexOutOfBoundsException> NO_SUCH = IndexOutOfBoundsException.class;
    private static final Class<IllegalArgumentException> WRONG = IllegalArgumentException.class;
    private static final Class<IllegalStateException> STATE = IllegalStateException.class;
    private static final Class<UnsupportedOperationException> REFUSED = UnsupportedOperationException.class;
    private static final int[] NO_ASKERS = {-1, 5, Integer.MIN_VALUE, Integer.MAX_VALUE};

    private static final Check check = new Check("RequestsTest");

    public static void main(String[] args) {
        request();
        requestWrong();
        requestOfDebtor();
        answer();
        answerByTheOrderOfLines();
        answerGivesNoLineThatIsHeldByThen();
        withdraw();
        changesWrong();
        price();
        pay();
        pass();
        passWrong();
        late();
        fees();
        answeredShare();
        check.end();
    }

    /** Twenty requests, one that waits for each pair of an asker and one of four documents. */
    private static Archivepress fullOfRequests() {
        Archivepress x = new Archivepress();
        for (int document = 0; document < 4; document++) {
            x.addDocument();
            for (int asker = 0; asker < 5; asker++) {
                x.request(asker, document);
            }
        }
        x.addDocument();
        return x;
    }

    /** Asker 3 owes the debt, which is at most 198, has no request that waits, and holds document 0. */
    private static Archivepress withDebt(int debt) {
        Archivepress x = new Archivepress();
        x.addDocument();
        x.addDocument();
        x.addDocument();
        x.addLine(0, 1);
        x.addLine(1, 2);
        x.setPrice(debt / 2);
        Offices.give(x, 3, 0);
        x.setPrice(debt - debt / 2);
        Offices.give(x, 3, 1);
        return x;
    }

    private static Archivepress withDebtAndWaiting() {
        Archivepress x = new Archivepress();
        x.addDocument();
        x.addDocument();
        x.addLine(0, 1);
        x.addLine(0, 2);
        x.setPrice(51);
        x.request(3, 1);
        Offices.give(x, 3, 0);
        return x;
    }

    private static void request() {
        Archivepress x = fullOfRequests();
        for (int i = 0; i < 20; i++) {
            check.same("23 state", 'w', x.state(i));
        }
        Archivepress y = Offices.twoDocuments();
        check.same("22 number", 0, y.request(4, 1));
        check.same("22 another asker", 1, y.request(0, 1));
        check.same("22 another document", 2, y.request(4, 0));
        y.answer(0);
        check.same("22 again, the first was answered", 3, y.request(4, 1));
        y.withdraw(1);
        check.same("22 again, the other was withdrawn", 4, y.request(0, 1));
        for (int i = 5; i < 20; i++) {
            y.withdraw(i - 1);
            check.same("22 number", i, y.request(0, 1));
        }
        check.same("22 nothing is given by asking", 0, y.given(0));
    }

    private static Archivepress oneWaits() {
        Archivepress x = Offices.twoDocuments();
        x.request(3, 1);
        return x;
    }

    private static void requestWrong() {
        for (int asker : NO_ASKERS) {
            check.fails("22 no asker", WRONG, RequestsTest::oneWaits, o -> o.request(asker, 1));
            check.fails("22 asker before document", WRONG, RequestsTest::oneWaits, o -> o.request(asker, 2));
            check.fails("22 asker before full", WRONG, RequestsTest::fullOfRequests, o -> o.request(asker, 0));
        }
        for (int document : new int[] {-1, 2, Integer.MIN_VALUE, Integer.MAX_VALUE}) {
            check.fails("22 no document", NO_SUCH, RequestsTest::oneWaits, o -> o.request(3, document));
        }
        check.fails("22 one waits", STATE, RequestsTest::oneWaits, o -> o.request(3, 1));
        check.fails("22 the request 21", STATE, RequestsTest::fullOfRequests, o -> o.request(0, 4));
        check.fails("22 document before full", NO_SUCH, RequestsTest::fullOfRequests, o -> o.request(0, 5));
    }

    private static void requestOfDebtor() {
        check.same("22 owes 100", 2, withDebt(100).request(3, 0));
        check.fails("22 owes 101", REFUSED, () -> withDebt(101), o -> o.request(3, 0));
        check.fails("22 owes 101, a document without lines", REFUSED, () -> withDebt(101), o -> o.request(3, 2));
        check.fails("22 document before debt", NO_SUCH, () -> withDebt(101), o -> o.request(3, 3));
        check.same("22 another asker", 2, withDebt(101).request(2, 0));
        check.fails("22 debt before one that waits", REFUSED, RequestsTest::withDebtAndWaiting,
                o -> o.request(3, 1));
        check.fails("22 debt before full", REFUSED, RequestsTest::fullWithDebtor, o -> o.request(0, 1));
        Archivepress x = withDebt(101);
        x.pay(3, 1);
        check.same("22 when enough is paid", 2, x.request(3, 0));
    }

    private static Archivepress fullWithDebtor() {
        Archivepress x = Offices.withLines(2);
        x.addDocument();
        x.setPrice(99);
        x.request(0, 0);
        for (int i = 1; i < 20; i++) {
            x.request(1, 1);
            x.withdraw(i);
        }
        x.answer(0);
        return x;
    }

    private static void answer() {
        Archivepress x = Offices.twoDocuments();
        x.addRule(1, 1, 9);
        x.request(2, 0);
        x.request(2, 1);
        check.same("24 those that are not withheld", 2, x.answer(0));
        check.same("23 answered", 'a', x.state(0));
        check.same("23 the other one waits", 'w', x.state(1));
        check.same("24 given", true, x.holds(2, 0));
        check.same("24 hidden", false, x.holds(2, 1));
        check.same("24 of another document", false, x.holds(2, 2));
        check.same("24 given", true, x.holds(2, 3));
        check.same("27 owed", 10, x.owed(2));
        check.same("24 all of them", 1, x.answer(1));
        x.request(2, 0);
        check.same("24 nothing anew", 0, x.answer(2));
        check.same("27 owed", 15, x.owed(2));
        x.pass(10);
        check.same("24 the rule has ended", 1, Offices.give(x, 2, 0));
        check.same("27 owed", 20, x.owed(2));
        check.same("17 given", 4, x.given(2));
        Archivepress lines = Offices.withLines(1);
        lines.request(0, 0);
        lines.addLine(0, 5);
        check.same("24 lines added after the request, too", 2, lines.answer(0));
        Archivepress none = Offices.empty();
        none.addDocument();
        check.same("24 a document without lines", 0, Offices.give(none, 0, 0));
        Archivepress debtor = withDebtAndWaiting();
        check.same("24 whatever is owed", 0, debtor.answer(0));
    }

    /** Any two of the three lines would tell the hidden one, so the first of them alone is given. */
    private static void answerByTheOrderOfLines() {
        Archivepress x = Offices.withLines(4);
        x.addRule(30, 30, 9);
        x.addJoin(0, 1, 2);
        x.addJoin(3, 0, 2);
        check.same("24 one of three", 1, Offices.give(x, 1, 0));
        check.same("24 the first", true, x.holds(1, 0));
        check.same("24 not the second", 'j', x.why(1, 1));
        check.same("24 not the third", 'j', x.why(1, 3));
        x.addDocument();
        x.addLine(1, 5);
        x.addJoin(4, 0, 1);
        check.same("24 withheld by what it tells in another document", 0, Offices.give(x, 1, 1));
        check.same("24 given to one who holds nothing", 1, Offices.give(x, 2, 1));
    }

    private static void answerGivesNoLineThatIsHeldByThen() {
        Archivepress x = Offices.withLines(4);
        x.addJoin(0, 1, 2);
        check.same("24 the told line is not given", 3, Offices.give(x, 0, 0));
        check.same("16 but held", 4, x.held(0));
        check.same("17 given", 3, x.given(0));
        check.same("27 and not owed for", 15, x.owed(0));
    }

    private static void withdraw() {
        Archivepress x = Offices.twoDocuments();
        x.request(0, 0);
        x.request(1, 0);
        x.request(2, 0);
        x.request(0, 1);
        check.same("25 withdraw", 3, x.withdraw(1));
        check.same("23 withdrawn", 'x', x.state(1));
        check.same("23 waits", 'w', x.state(0));
        x.answer(2);
        check.same("25 neither answered nor withdrawn ones wait", 1, x.withdraw(0));
        check.same("25 the last one", 0, x.withdraw(3));
        check.same("25 nothing is given", 0, x.given(0));
        check.same("25 nothing is owed", 0, x.owed(0));
    }

    private static Archivepress answeredAndWithdrawn() {
        Archivepress x = Offices.twoDocuments();
        x.request(0, 0);
        x.request(1, 0);
        x.request(2, 0);
        x.answer(0);
        x.withdraw(1);
        x.addLine(0, 4);
        return x;
    }

    private static void changesWrong() {
        for (int request : new int[] {-1, 3, Integer.MIN_VALUE, Integer.MAX_VALUE}) {
            check.fails("23 no request", NO_SUCH, RequestsTest::answeredAndWithdrawn, o -> o.state(request));
            check.fails("24 no request", NO_SUCH, RequestsTest::answeredAndWithdrawn, o -> o.answer(request));
            check.fails("25 no request", NO_SUCH, RequestsTest::answeredAndWithdrawn, o -> o.withdraw(request));
        }
        for (int request = 0; request < 2; request++) {
            int number = request;
            check.fails("24 does not wait", STATE, RequestsTest::answeredAndWithdrawn, o -> o.answer(number));
            check.fails("25 does not wait", STATE, RequestsTest::answeredAndWithdrawn, o -> o.withdraw(number));
        }
        check.fails("23 the request 20", NO_SUCH, RequestsTest::fullOfRequests, o -> o.state(20));
        check.fails("24 the request 20", NO_SUCH, RequestsTest::fullOfRequests, o -> o.answer(20));
        check.fails("25 the request 20", NO_SUCH, RequestsTest::fullOfRequests, o -> o.withdraw(20));
        check.same("25 the request 19", 19, fullOfRequests().withdraw(19));
    }

    private static void price() {
        Archivepress x = Offices.twoDocuments();
        x.request(0, 0);
        check.same("26 the price at first", 5, x.setPrice(99));
        check.same("26 the greatest", 99, x.setPrice(0));
        check.same("26 the least", 0, x.setPrice(7));
        check.same("26 the price when it is answered counts", 3, x.answer(0));
        check.same("27 owed", 21, x.owed(0));
        x.setPrice(0);
        Offices.give(x, 0, 1);
        check.same("27 for nothing", 21, x.owed(0));
        check.same("27 others owe nothing", 0, x.owed(1));
        check.fails("26 below", WRONG, Offices::twoDocuments, o -> o.setPrice(-1));
        check.fails("26 above", WRONG, Offices::twoDocuments, o -> o.setPrice(100));
        check.fails("26 far below", WRONG, Offices::twoDocuments, o -> o.setPrice(Integer.MIN_VALUE));
        check.fails("26 far above", WRONG, Offices::twoDocuments, o -> o.setPrice(Integer.MAX_VALUE));
        for (int asker : NO_ASKERS) {
            check.fails("27 no asker", WRONG, Offices::twoDocuments, o -> o.owed(asker));
        }
        Archivepress full = Offices.withLines(40);
        full.setPrice(99);
        Offices.give(full, 4, 0);
        check.same("27 the most", 3960, full.owed(4));
    }

    private static void pay() {
        Archivepress x = withDebt(12);
        check.same("28 the least sum", 11, x.pay(3, 1));
        check.same("27 owed", 11, x.owed(3));
        check.same("28 all but 1", 1, x.pay(3, 10));
        check.same("28 all", 0, x.pay(3, 1));
        check.same("27 owed", 0, x.owed(3));
        check.same("28 all at once", 0, withDebt(12).pay(3, 12));
        for (int asker : NO_ASKERS) {
            check.fails("28 no asker", WRONG, () -> withDebt(12), o -> o.pay(asker, 1));
        }
        for (int sum : new int[] {0, -1, 13, Integer.MIN_VALUE, Integer.MAX_VALUE}) {
            check.fails("28 wrong sum", WRONG, () -> withDebt(12), o -> o.pay(3, sum));
        }
        check.fails("28 owes nothing", WRONG, () -> withDebt(12), o -> o.pay(2, 1));
        check.fails("28 owes nothing", WRONG, () -> withDebt(12), o -> o.pay(2, 0));
    }

    private static void pass() {
        Archivepress x = fullOfRequests();
        check.same("29 none by 20 days", 0, x.pass(20));
        check.same("30 day", 20, x.day());
        check.same("29 all by the next one", 20, x.pass(1));
        check.same("29 none becomes late twice", 0, x.pass(90));
        check.same("30 day", 111, x.day());
        Archivepress y = Offices.twoDocuments();
        y.request(0, 0);
        y.pass(1);
        y.request(1, 0);
        y.request(2, 0);
        y.request(3, 0);
        y.pass(1);
        y.request(4, 0);
        y.withdraw(2);
        y.answer(3);
        check.same("29 one", 1, y.pass(19));
        check.same("29 neither withdrawn nor answered ones", 1, y.pass(1));
        check.same("31 late", 2, y.late());
        y.withdraw(0);
        check.same("29 only those that become late", 1, y.pass(1));
        check.same("29 the longest pass", 0, y.pass(90));
        check.same("30 day", 113, y.day());
        check.same("30 the last day of all", 9999, Offices.onDay(y, 9999).day());
    }

    private static void passWrong() {
        for (int days : new int[] {0, 91, -1, Integer.MIN_VALUE, Integer.MAX_VALUE}) {
            check.fails("29 wrong days", WRONG, RequestsTest::oneWaits, o -> o.pass(days));
        }
        check.fails("29 no day is left", WRONG, () -> Offices.onDay(oneWaits(), 9999), o -> o.pass(1));
        check.fails("29 one day too many", WRONG, () -> Offices.onDay(oneWaits(), 9920), o -> o.pass(80));
        check.same("29 to the last day", 0, Offices.onDay(oneWaits(), 9920).pass(79));
    }

    private static void late() {
        Archivepress x = Offices.onDay(Offices.twoDocuments(), 7);
        x.request(0, 0);
        x.request(1, 0);
        x.request(2, 0);
        x.pass(20);
        check.same("31 20 days have passed", 0, x.late());
        x.request(3, 0);
        x.pass(1);
        check.same("31 more than 20 days have passed", 3, x.late());
        x.answer(0);
        check.same("31 not an answered one", 2, x.late());
        x.withdraw(1);
        check.same("31 not a withdrawn one", 1, x.late());
        x.pass(20);
        check.same("31 a later one, too", 2, x.late());
    }

    private static void fees() {
        Archivepress x = Offices.twoDocuments();
        Offices.give(x, 0, 0);
        check.same("32 fees", 15L, x.fees());
        x.pay(0, 15);
        check.same("32 what is paid counts still", 15L, x.fees());
        x.setPrice(99);
        Offices.give(x, 0, 1);
        Offices.give(x, 4, 1);
        check.same("32 of all askers", 213L, x.fees());
        Archivepress full = Offices.withLines(40);
        full.setPrice(99);
        for (int asker = 0; asker < 5; asker++) {
            Offices.give(full, asker, 0);
        }
        check.same("32 the most", 19800L, full.fees());
        check.same("17 the most that is given", 40, full.given(4));
        check.same("15 found from the longest log", true, full.holdsByLog(4, 39));
    }

    private static void answeredShare() {
        check.fails("33 no requests", NoSuchElementException.class, Offices::twoDocuments,
                o -> o.answeredShare());
        Archivepress x = Offices.twoDocuments();
        x.request(0, 0);
        check.same("33 one waits", 0.0f, x.answeredShare());
        x.answer(0);
        check.same("33 one of one", 1.0f, x.answeredShare());
        x.request(1, 0);
        x.withdraw(1);
        check.same("33 a withdrawn one is not answered", 0.5f, x.answeredShare());
        x.request(1, 0);
        check.same("33 one of three", 1.0f / 3.0f, x.answeredShare());
        x.answer(2);
        check.same("33 two of three", 2.0f / 3.0f, x.answeredShare());
    }
}
