import java.util.NoSuchElementException;

/** Promises 22 to 33: requests, fees and days. */
public final class RequestsTest {
    private static final Class<IndexOutOfBoundsException> NO_SUCH = IndexOutOfBoundsException.class;
    private static final Class<IllegalArgumentException> WRONG = IllegalArgumentException.class;
    private static final Class<IllegalStateException> STATE = IllegalStateException.class;
    private static final Class<UnsupportedOperationException> DEBT = UnsupportedOperationException.class;
    private static final Class<NoSuchElementException> NONE = NoSuchElementException.class;

    private static final Check check = Check.ofPromises("RequestsTest", 22, 33);

    public static void main(String[] args) {
        request();
        requestReturns();
        requestNoAsker();
        requestNoDocument();
        requestOfDebtor();
        requestFullOrWaiting();
        state();
        stateReturns();
        answer();
        answerLater();
        answerReturns();
        withdraw();
        withdrawReturns();
        noRequest();
        doesNotWait();
        setPrice();
        setPriceReturns();
        setPriceWrong();
        owed();
        owedReturns();
        owedNoAsker();
        pay();
        payReturns();
        payNoAskerOrWrongSum();
        pass();
        passReturns();
        passWrong();
        day();
        late();
        lateReturns();
        fees();
        feesReturns();
        answeredShare();
        answeredShareReturns();
        answeredShareNoRequest();
        check.end();
    }

    private static Archivepress oneWaits() {
        Archivepress x = Offices.twoDocuments();
        x.request(3, 1);
        return x;
    }

    /** Request 0 is answered, 1 withdrawn, and 2 waits; line 4 is not given yet. */
    private static Archivepress answeredAndWithdrawn() {
        Archivepress x = Offices.twoDocuments();
        x.request(0, 0);
        x.request(1, 0);
        x.request(2, 0);
        x.answer(0);
        x.withdraw(1);
        x.addLine(0, 4);
        return x;
    }

    private static void request() {
        check.promise(22, "Makes a request.");
        Archivepress x = Offices.twoDocuments();
        x.request(4, 1);
        check.same("waits", 'w', x.state(0));
        check.same("nothing is given by asking", 0, x.given(4));
        check.same("nothing is owed by asking", 0, x.owed(4));
        check.same("it is of this asker for this document", 1, x.answer(0));
        check.same("which gives its line", true, x.holds(4, 2));
        Archivepress none = Offices.withDocuments(1);
        none.request(0, 0);
        check.same("for a document without lines", 'w', none.state(0));
    }

    private static void requestReturns() {
        check.promise(22, "Returns the number of the request.");
        Archivepress x = Offices.twoDocuments();
        check.same("the first", 0, x.request(4, 1));
        check.same("another asker", 1, x.request(0, 1));
        check.same("another document", 2, x.request(4, 0));
        x.answer(0);
        check.same("again, the first was answered", 3, x.request(4, 1));
        x.withdraw(1);
        check.same("again, the other was withdrawn", 4, x.request(0, 1));
        for (int request = 5; request < 20; request++) {
            x.withdraw(request - 1);
            check.same("the next", request, x.request(0, 1));
        }
    }

    private static void requestNoAsker() {
        check.refusal(22, WRONG, "there is no such asker");
        for (int asker : Offices.beyond(5)) {
            check.refused("" + asker, RequestsTest::oneWaits, o -> o.request(asker, 1));
        }
        check.same("the first asker", 1, oneWaits().request(0, 1));
        check.same("the last asker", 1, oneWaits().request(4, 1));
    }

    private static void requestNoDocument() {
        check.refusal(22, NO_SUCH, "there is no such document");
        for (int document : Offices.beyond(2)) {
            check.refused("of two, " + document, RequestsTest::oneWaits, o -> o.request(3, document));
        }
        for (int document : Offices.beyond(8)) {
            check.refused("of eight, " + document, Offices::fullOfDocuments, o -> o.request(3, document));
        }
        check.refused("no document at all", Offices::empty, o -> o.request(3, 0));
        check.same("the first document", 1, oneWaits().request(3, 0));
        check.same("the last of eight", 0, Offices.fullOfDocuments().request(3, 7));
    }

    private static void requestOfDebtor() {
        check.refusal(22, DEBT, "the asker owes more than 100");
        check.same("owes nothing", 2, Offices.withDebt(0).request(3, 0));
        check.same("owes 99", 2, Offices.withDebt(99).request(3, 0));
        check.same("owes 100", 2, Offices.withDebt(100).request(3, 0));
        check.refused("owes 101", () -> Offices.withDebt(101), o -> o.request(3, 0));
        check.refused("owes 198", () -> Offices.withDebt(198), o -> o.request(3, 0));
        check.refused("owes 101, a document without lines", () -> Offices.withDebt(101), o -> o.request(3, 2));
        check.same("another asker", 2, Offices.withDebt(101).request(2, 0));
        Archivepress x = Offices.withDebt(101);
        x.setPrice(0);
        check.same("though it costs nothing", "throws.java.lang.UnsupportedOperationException",
                Check.answerOf(x, o -> o.request(3, 0)));
        x.pay(3, 1);
        check.same("when enough is paid", 2, x.request(3, 0));
    }

    /** Nineteen requests, of which all but the last are withdrawn. */
    private static Archivepress withNineteenRequests() {
        Archivepress x = Offices.twoDocuments();
        for (int request = 0; request < 19; request++) {
            x.request(0, 1);
            if (request < 18) {
                x.withdraw(request);
            }
        }
        return x;
    }

    private static Archivepress withTwentyRequestsEnded() {
        Archivepress x = withNineteenRequests();
        x.withdraw(18);
        x.answer(x.request(0, 1));
        return x;
    }

    private static void requestFullOrWaiting() {
        check.refusal(22, STATE, "there are 20 requests, or one of this asker for this document waits");
        check.same("the last one that goes in", 19, withNineteenRequests().request(1, 1));
        check.refused("one waits, the request 20", RequestsTest::withNineteenRequests, o -> o.request(0, 1));
        check.refused("the request 21", Offices::fullOfRequests, o -> o.request(0, 4));
        check.refused("the request 21, though none waits", RequestsTest::withTwentyRequestsEnded,
                o -> o.request(1, 0));
        check.refused("the request 21, and one waits", Offices::fullOfRequests, o -> o.request(0, 0));
        check.refused("one waits", RequestsTest::oneWaits, o -> o.request(3, 1));
        check.refused("one waits that is late", () -> Offices.onDay(oneWaits(), 50), o -> o.request(3, 1));
        check.same("one of another asker waits", 1, oneWaits().request(2, 1));
        check.same("one for another document waits", 1, oneWaits().request(3, 0));
        check.same("one was answered", 3, answeredAndWithdrawn().request(0, 0));
        check.same("one was withdrawn", 3, answeredAndWithdrawn().request(1, 0));
    }

    private static void state() {
        check.promise(23, "Returns the state of a request.");
        Archivepress x = Offices.fullOfRequests();
        for (int request = 0; request < 20; request++) {
            check.same("waits", 'w', x.state(request));
        }
        x.answer(19);
        x.withdraw(0);
        check.same("the first is withdrawn", 'x', x.state(0));
        check.same("the last is answered", 'a', x.state(19));
        for (int request = 1; request < 19; request++) {
            check.same("the others wait", 'w', x.state(request));
        }
    }

    private static void stateReturns() {
        check.promise(23, "Returns 'w', 'a' or 'x'.");
        Archivepress x = answeredAndWithdrawn();
        check.same("answered", 'a', x.state(0));
        check.same("withdrawn", 'x', x.state(1));
        check.same("waits", 'w', x.state(2));
        x.pass(90);
        check.same("waits, though late", 'w', x.state(2));
        Archivepress none = Offices.withDocuments(1);
        none.request(0, 0);
        none.answer(0);
        check.same("answered, though nothing was given", 'a', none.state(0));
    }

    private static void answer() {
        check.promise(24, "Answers a request.");
        Archivepress x = Offices.twoDocuments();
        x.addRule(1, 1, 9);
        x.request(2, 0);
        x.request(2, 1);
        x.answer(0);
        check.same("answered", 'a', x.state(0));
        check.same("the other one waits", 'w', x.state(1));
        check.same("given", true, x.holds(2, 0));
        check.same("hidden", false, x.holds(2, 1));
        check.same("of another document", false, x.holds(2, 2));
        check.same("given", true, x.holds(2, 3));
        check.same("to nobody else", 1, x.holders(0));
        check.same("owed for two", 10, x.owed(2));
        check.same("the fees for two", 10L, x.fees());
        check.same("given and counted", 2, x.given(2));
    }

    private static void answerLater() {
        check.promise(24, "Answers a request.");
        Archivepress lines = Offices.withLines(1);
        lines.request(0, 0);
        lines.addLine(0, 5);
        check.same("lines added after the request, too", 2, lines.answer(0));
        Archivepress hidden = Offices.withLines(2);
        hidden.request(0, 0);
        hidden.addSpan(0, 1, 1, 30);
        check.same("a line hidden after the request is not given", 1, hidden.answer(0));
        hidden.request(0, 0);
        hidden.pass(31);
        check.same("late, when the span has ended", 1, hidden.answer(1));
        Archivepress debtor = Offices.withLines(2);
        debtor.addDocument();
        debtor.addLine(1, 5);
        debtor.setPrice(51);
        debtor.request(3, 0);
        debtor.request(3, 1);
        debtor.answer(0);
        check.same("whatever is owed", 1, debtor.answer(1));
        Archivepress told = Offices.withLines(4);
        told.addDocument();
        told.addLine(1, 5);
        told.addRule(20, 20, 9);
        told.addJoin(4, 0, 1);
        check.same("all but what is hidden", 3, Offices.give(told, 1, 0));
        check.same("withheld by what it tells in another document", 0, Offices.give(told, 1, 1));
        check.same("given to one who holds nothing", 1, Offices.give(told, 2, 1));
        Archivepress known = Offices.withKey();
        known.addDocument();
        known.addLine(2, 7);
        Offices.give(known, 0, 2);
        known.addJoin(0, 5, 6);
        known.addRule(7, 7, 9);
        check.same("given though the hidden line that it tells is held", 5, Offices.give(known, 0, 0));
    }

    private static void answerReturns() {
        check.promise(24, "Returns how many lines are given.");
        Archivepress x = Offices.twoDocuments();
        x.addRule(1, 1, 9);
        check.same("those that are not withheld", 2, Offices.give(x, 2, 0));
        check.same("all of them", 1, Offices.give(x, 2, 1));
        check.same("nothing anew", 0, Offices.give(x, 2, 0));
        x.pass(10);
        check.same("the rule has ended", 1, Offices.give(x, 2, 0));
        check.same("a document without lines", 0, Offices.give(Offices.withDocuments(1), 0, 0));
        check.same("the most", 40, Offices.give(Offices.fullOfLines(), 4, 0));
        Archivepress told = Offices.withLines(4);
        told.addJoin(0, 1, 2);
        check.same("the told line is not given", 3, Offices.give(told, 0, 0));
        check.same("but held", 4, told.held(0));
    }

    private static void withdraw() {
        check.promise(25, "Withdraws a request.");
        Archivepress x = Offices.twoDocuments();
        x.request(0, 0);
        x.request(1, 0);
        x.withdraw(1);
        check.same("withdrawn", 'x', x.state(1));
        check.same("the other one waits", 'w', x.state(0));
        check.same("nothing is given", 0, x.given(1));
        check.same("nothing is owed", 0, x.owed(1));
        check.same("and can be made again", 2, x.request(1, 0));
    }

    private static void withdrawReturns() {
        check.promise(25, "Returns how many requests wait then.");
        Archivepress x = Offices.twoDocuments();
        x.request(0, 0);
        x.request(1, 0);
        x.request(2, 0);
        x.request(0, 1);
        check.same("one less", 3, x.withdraw(1));
        x.answer(2);
        check.same("neither answered nor withdrawn ones", 1, x.withdraw(0));
        check.same("the last one", 0, x.withdraw(3));
        check.same("of twenty", 19, Offices.fullOfRequests().withdraw(19));
        check.same("late ones wait, too", 1, Offices.onDay(lateAndNew(), 30).withdraw(1));
    }

    private static Archivepress lateAndNew() {
        Archivepress x = Offices.twoDocuments();
        x.request(0, 0);
        x.pass(21);
        x.request(1, 0);
        return x;
    }

    /** A call with a number. */
    private interface NumberCall {
        Object on(Archivepress office, int number);
    }

    private static void noRequestFor(int promise, NumberCall call) {
        check.refusal(promise, NO_SUCH, "there is no such request");
        for (int request : Offices.beyond(3)) {
            check.refused("of three, " + request, RequestsTest::answeredAndWithdrawn, o -> call.on(o, request));
        }
        for (int request : Offices.beyond(20)) {
            check.refused("of twenty, " + request, Offices::fullOfRequests, o -> call.on(o, request));
        }
        check.refused("no request at all", Offices::twoDocuments, o -> call.on(o, 0));
    }

    private static void noRequest() {
        noRequestFor(23, (o, request) -> o.state(request));
        noRequestFor(24, (o, request) -> o.answer(request));
        noRequestFor(25, (o, request) -> o.withdraw(request));
    }

    private static void doesNotWaitFor(int promise, NumberCall call) {
        check.refusal(promise, STATE, "it does not wait");
        check.refused("answered", RequestsTest::answeredAndWithdrawn, o -> call.on(o, 0));
        check.refused("withdrawn", RequestsTest::answeredAndWithdrawn, o -> call.on(o, 1));
        check.refused("answered, though another one waits", Offices::full, o -> call.on(o, 0));
        check.same("waits", false, Check.answerOf(answeredAndWithdrawn(), o -> call.on(o, 2)).startsWith("throws"));
    }

    private static void doesNotWait() {
        doesNotWaitFor(24, (o, request) -> o.answer(request));
        doesNotWaitFor(25, (o, request) -> o.withdraw(request));
    }

    private static void setPrice() {
        check.promise(26, "Sets the price.");
        Archivepress x = Offices.twoDocuments();
        x.request(0, 0);
        x.setPrice(7);
        check.same("when it is answered", 3, x.answer(0));
        check.same("the price of that time counts", 21, x.owed(0));
        x.setPrice(99);
        check.same("and not what comes later", 21, x.owed(0));
        x.setPrice(0);
        Offices.give(x, 0, 1);
        check.same("for nothing", 21, x.owed(0));
    }

    private static void setPriceReturns() {
        check.promise(26, "Returns the price before.");
        Archivepress x = new Archivepress();
        check.same("the price at first", 5, x.setPrice(99));
        check.same("the greatest", 99, x.setPrice(0));
        check.same("the least", 0, x.setPrice(7));
        check.same("the same again", 7, x.setPrice(7));
        check.same("the same again", 7, x.setPrice(1));
    }

    private static void setPriceWrong() {
        check.refusal(26, WRONG, "it is not between 0 and 99");
        for (int price : Offices.outside(99)) {
            check.refused("" + price, Offices::twoDocuments, o -> o.setPrice(price));
        }
        check.same("the least", 5, Offices.twoDocuments().setPrice(0));
        check.same("the greatest", 5, Offices.twoDocuments().setPrice(99));
    }

    private static void owed() {
        check.promise(27, "Returns what an asker owes.");
        Archivepress x = Offices.twoDocuments();
        check.same("nothing yet", 0, x.owed(0));
        Offices.give(x, 0, 0);
        check.same("for three", 15, x.owed(0));
        Offices.give(x, 0, 1);
        check.same("for four", 20, x.owed(0));
        check.same("others owe nothing", 0, x.owed(1));
        x.pay(0, 19);
        check.same("less what is paid", 1, x.owed(0));
    }

    private static void owedReturns() {
        check.promise(27, "Returns the sum.");
        for (int asker = 0; asker < 5; asker++) {
            check.same("in a new office", 0, new Archivepress().owed(asker));
            Archivepress full = Offices.fullOfLines();
            full.setPrice(99);
            Offices.give(full, asker, 0);
            check.same("the most", 3960, full.owed(asker));
        }
    }

    private static void owedNoAsker() {
        check.refusal(27, WRONG, "there is no such asker");
        for (int asker : Offices.beyond(5)) {
            check.refused("" + asker, Offices::twoDocuments, o -> o.owed(asker));
        }
    }

    private static void pay() {
        check.promise(28, "Lets an asker pay.");
        Archivepress x = Offices.withDebt(12);
        x.pay(3, 5);
        check.same("owes less", 7, x.owed(3));
        check.same("holds what was given", 2, x.held(3));
        x.pay(3, 7);
        check.same("owes nothing", 0, x.owed(3));
        Offices.give(x, 2, 0);
        x.pay(2, 1);
        check.same("the others owe what they owe", 0, x.owed(3));
    }

    private static void payReturns() {
        check.promise(28, "Returns what the asker owes then.");
        Archivepress x = Offices.withDebt(12);
        check.same("the least sum", 11, x.pay(3, 1));
        check.same("all but 1", 1, x.pay(3, 10));
        check.same("the rest", 0, x.pay(3, 1));
        check.same("all at once", 0, Offices.withDebt(12).pay(3, 12));
        check.same("of much", 197, Offices.withDebt(198).pay(3, 1));
    }

    private static void payNoAskerOrWrongSum() {
        check.refusal(28, WRONG, "there is no such asker, or the sum is not between 1 and what the asker owes");
        for (int asker : Offices.beyond(5)) {
            check.refused("asker " + asker, () -> Offices.withDebt(12), o -> o.pay(asker, 1));
        }
        for (int sum : new int[] {0, -1, 13, Integer.MIN_VALUE, Integer.MAX_VALUE}) {
            check.refused("the sum " + sum, () -> Offices.withDebt(12), o -> o.pay(3, sum));
        }
        check.refused("owes nothing", () -> Offices.withDebt(12), o -> o.pay(2, 1));
        check.refused("owes and pays nothing", () -> Offices.withDebt(12), o -> o.pay(2, 0));
        check.same("the least sum", 11, Offices.withDebt(12).pay(3, 1));
        check.same("the greatest sum", 0, Offices.withDebt(12).pay(3, 12));
    }

    private static void pass() {
        check.promise(29, "Lets days pass.");
        Archivepress x = Offices.twoDocuments();
        x.addRule(0, 0, 1);
        x.pass(1);
        check.same("one day", 1, x.day());
        check.same("a rule's last day", true, x.isHidden(0));
        x.pass(1);
        check.same("another one", 2, x.day());
        check.same("has passed", false, x.isHidden(0));
        x.pass(90);
        check.same("the most", 92, x.day());
    }

    private static void passReturns() {
        check.promise(29, "Returns how many requests become late by this.");
        check.same("no request", 0, Offices.empty().pass(90));
        Archivepress full = Offices.fullOfRequests();
        check.same("none by 20 days", 0, full.pass(20));
        check.same("all by the next one", 20, full.pass(1));
        check.same("none becomes late twice", 0, full.pass(90));
        check.same("all at once", 20, Offices.fullOfRequests().pass(21));
        Archivepress x = Offices.twoDocuments();
        x.request(0, 0);
        x.pass(1);
        x.request(1, 0);
        x.request(2, 0);
        x.request(3, 0);
        x.pass(1);
        x.request(4, 0);
        x.withdraw(2);
        x.answer(3);
        check.same("one", 1, x.pass(19));
        check.same("neither withdrawn nor answered ones", 1, x.pass(1));
        x.withdraw(0);
        check.same("only those that become late", 1, x.pass(1));
        check.same("none is left", 0, x.pass(90));
    }

    private static Archivepress oneWaitsOn(int day) {
        return Offices.onDay(oneWaits(), day);
    }

    private static void passWrong() {
        check.refusal(29, WRONG, "it is not between 1 and 90, or the day would be greater than 9999");
        for (int days : new int[] {0, 91, -1, Integer.MIN_VALUE, Integer.MAX_VALUE}) {
            check.refused(days + " days", RequestsTest::oneWaits, o -> o.pass(days));
            check.refused(days + " days later", () -> oneWaitsOn(5000), o -> o.pass(days));
        }
        check.refused("one day on the last one", () -> oneWaitsOn(9999), o -> o.pass(1));
        check.refused("two days on the last but one", () -> oneWaitsOn(9998), o -> o.pass(2));
        check.refused("80 days, one too many", () -> oneWaitsOn(9920), o -> o.pass(80));
        check.refused("90 days, one too many", () -> oneWaitsOn(9910), o -> o.pass(90));
        check.same("the least", 0, oneWaits().pass(1));
        check.same("the most", 1, oneWaits().pass(90));
        check.same("one day to the last one", 0, oneWaitsOn(9998).pass(1));
        check.same("90 days to the last one", 0, oneWaitsOn(9909).pass(90));
    }

    private static void day() {
        check.promise(30, "Returns the day.");
        Archivepress x = new Archivepress();
        check.same("the first", 0, x.day());
        x.pass(1);
        check.same("the second", 1, x.day());
        x.pass(90);
        check.same("and on", 91, x.day());
        for (int rest = 9999 - 91; rest > 0; rest -= 90) {
            x.pass(Math.min(90, rest));
        }
        check.same("the last", 9999, x.day());
    }

    private static void late() {
        check.promise(31, "Returns the number of requests that are late.");
        Archivepress x = Offices.onDay(Offices.twoDocuments(), 7);
        x.request(0, 0);
        x.request(1, 0);
        x.request(2, 0);
        x.pass(20);
        check.same("20 days have passed", 0, x.late());
        x.request(3, 0);
        x.pass(1);
        check.same("more than 20 days have passed", 3, x.late());
        x.answer(0);
        check.same("not an answered one", 2, x.late());
        x.withdraw(1);
        check.same("not a withdrawn one", 1, x.late());
        x.pass(19);
        check.same("not the later one yet", 1, x.late());
        x.pass(1);
        check.same("the later one, too", 2, x.late());
    }

    private static void lateReturns() {
        check.promise(31, "Returns the number of requests.");
        Archivepress none = new Archivepress();
        none.pass(90);
        check.same("no request", 0, none.late());
        Archivepress full = Offices.fullOfRequests();
        check.same("none", 0, full.late());
        full.pass(21);
        check.same("all", 20, full.late());
    }

    private static void fees() {
        check.promise(32, "Returns the sum of all that askers came to owe.");
        Archivepress x = Offices.twoDocuments();
        Offices.give(x, 0, 0);
        check.same("of one asker", 15L, x.fees());
        x.pay(0, 15);
        check.same("what is paid counts still", 15L, x.fees());
        x.setPrice(99);
        Offices.give(x, 0, 1);
        Offices.give(x, 4, 1);
        check.same("of all askers", 213L, x.fees());
        x.setPrice(0);
        Offices.give(x, 3, 0);
        check.same("for nothing", 213L, x.fees());
    }

    private static void feesReturns() {
        check.promise(32, "Returns the sum.");
        check.same("in a new office", 0L, new Archivepress().fees());
        Archivepress full = Offices.fullOfLines();
        full.setPrice(99);
        for (int asker = 0; asker < 5; asker++) {
            Offices.give(full, asker, 0);
        }
        check.same("the most", 19800L, full.fees());
    }

    private static void answeredShare() {
        check.promise(33, "Returns the share of the requests that are answered.");
        Archivepress x = Offices.twoDocuments();
        x.request(0, 0);
        check.same("one waits", 0.0f, x.answeredShare());
        x.answer(0);
        check.same("one of one", 1.0f, x.answeredShare());
        x.request(1, 0);
        x.withdraw(1);
        check.same("a withdrawn one is not answered", 0.5f, x.answeredShare());
        x.request(1, 0);
        check.same("one that waits is not answered", 1.0f / 3.0f, x.answeredShare());
    }

    private static void answeredShareReturns() {
        check.promise(33, "Returns their number divided by that of all requests, both converted to float.");
        Archivepress x = Offices.fullOfRequests();
        for (int request = 0; request < 20; request++) {
            check.same("of twenty", (float) request / 20.0f, x.answeredShare());
            x.answer(request);
        }
        check.same("all of twenty", 1.0f, x.answeredShare());
        for (int all = 1; all < 20; all++) {
            Archivepress y = Offices.withDocuments(1);
            for (int request = 0; request < all; request++) {
                y.request(0, 0);
                y.answer(request);
                check.same("all so far", 1.0f, y.answeredShare());
            }
            y.request(0, 0);
            check.same("all but one", (float) all / (float) (all + 1), y.answeredShare());
        }
    }

    private static void answeredShareNoRequest() {
        check.refusal(33, NONE, "there are none");
        check.refused("no request", Offices::twoDocuments, o -> o.answeredShare());
        check.refused("no document", Offices::empty, o -> o.answeredShare());
        Archivepress x = Offices.twoDocuments();
        x.request(0, 0);
        x.withdraw(0);
        check.same("one that is withdrawn", 0.0f, x.answeredShare());
    }
}
