/** What the sections "What it is" and "Terms" say; for "Exceptions" see ExceptionsTest. */
public final class TermsTest {
    private static final Class<IndexOutOfBoundsException> NO_SUCH = IndexOutOfBoundsException.class;
    private static final Class<IllegalArgumentException> WRONG = IllegalArgumentException.class;
    private static final Class<IllegalStateException> STATE = IllegalStateException.class;

    private static final String SPANS = "At most 12 spans have the numbers 0 to n - 1; a span has a document, two "
            + "indexes and a last day, and hides, up to this day, the lines of the document with indexes from the "
            + "first one to the second one, also those that are added later, unless it was lifted.";
    private static final String WHAT_IS_HELD = "What an asker holds is all that was given to this asker, with each "
            + "line that two lines, both held, tell, and so on; a line that is held once stays held, whatever is "
            + "hidden later.";
    private static final String REASONS = "A line that an asker does not hold is withheld from this asker for these "
            + "reasons: 'r' if a rule hides it, 's' if a span hides it, and, if neither does, 'j' if the asker, with "
            + "it, would hold a hidden line that this asker does not hold yet.";
    private static final String LOWEST_LINE = "'j' is caused by the first reason of the hidden line with the lowest "
            + "number that would be held so.";

    private static final Check check = new Check("TermsTest", "What it is", "Terms", "Terms: Documents and lines",
            "Terms: Rules and spans", "Terms: Joins", "Terms: Requests", "Terms: Causes", "Terms: Days");

    public static void main(String[] args) {
        lastCall();
        story();
        rowOfCauses();
        keptAndFoundFromLog();
        documents();
        lines();
        indexes();
        rules();
        spans();
        spanHides();
        hiddenToday();
        joins();
        whatAskersHold();
        heldStaysHeld();
        askers();
        requests();
        linesAreGoneThrough();
        price();
        reasons();
        reasonJoin();
        reasonJoinNotForToldLines();
        ruleIsCausedBySpan();
        joinIsCausedByLowestLine();
        joinIsCausedByFirstAndLastLine();
        root();
        firstAndLastDay();
        lateness();
        sayNothing();
        check.end();
    }

    private static void sayNothing() {
        check.promisesNothing("What it is", "A records office.");
        check.promisesNothing("Terms", "The class is not thread-safe.");
    }

    private static void lastCall() {
        check.sentence("What it is", "An object is used for at most 512 calls after it has been made; "
                + "what later calls answer is free.");
        Archivepress scanned = Offices.withLines(1);
        for (int call = 3; call < 512; call++) {
            scanned.rescan(0, call);
        }
        check.same("the call 512", 511, scanned.rescan(0, 0));
        Archivepress refusing = new Archivepress();
        for (int call = 1; call < 512; call++) {
            Check.answerOf(refusing, o -> o.addLine(0, 0));
        }
        check.same("the call 512 after 511 refused ones", 0, refusing.addDocument());
        Archivepress passing = new Archivepress();
        for (int call = 1; call < 512; call++) {
            passing.pass(1);
        }
        check.same("the call 512 after as many days", 511, passing.day());
        Archivepress full = Offices.full();
        for (int call = Offices.CALLS_OF_FULL + 1; call < 512; call++) {
            full.holdsByLog(call % 5, call % 40);
        }
        check.same("the call 512 on a full office", 4, full.answer(2));
    }

    private static void story() {
        check.sentence("Terms", "Documents have lines that are scanned and scanned anew, rules and spans hide lines "
                + "until they end, askers make requests with fees and clocks, and what is given to an asker is "
                + "remembered, so that no line is given by which hidden ones could be told from what an asker holds.");
        Archivepress x = Offices.withLines(3);
        x.addJoin(0, 1, 2);
        x.addRule(30, 39, 5);
        x.addSpan(0, 2, 2, 3);
        check.same("what is given at first", 1, Offices.give(x, 0, 0));
        check.same("that is the first line", true, x.holds(0, 0));
        check.same("by the second one the third could be told", false, x.holds(0, 1));
        check.same("and another asker gets the first one, too", 1, Offices.give(x, 1, 0));
        x.pass(5);
        check.same("the span has ended, the rule has not", 0, Offices.give(x, 0, 0));
        check.same("scanned anew", 30, x.rescan(2, 40));
        check.same("what is given then", 1, Offices.give(x, 0, 0));
        check.same("the third line is told", true, x.holds(0, 2));
        check.same("the fees", 15L, x.fees());
    }

    private static void rowOfCauses() {
        check.sentence("Terms", "Why a line is withheld is told as a row of causes.");
        Archivepress x = Offices.withKey();
        x.addJoin(0, 5, 1);
        Rows.rowIs(check, "of a free line", "-", x, 0, 0);
        x.addSpan(0, 1, 1, 9);
        Rows.rowIs(check, "of two causes", "js", x, 0, 0);
        x.addRule(20, 20, 9);
        Rows.rowIs(check, "of three causes", "jrs", x, 0, 0);
    }

    private static void keptAndFoundFromLog() {
        check.sentence("Terms", "What an asker holds is kept, and can be found from the log of all that was given.");
        for (int asker = 0; asker < 5; asker++) {
            Archivepress x = Offices.full();
            for (int request = 2; request < 20; request++) {
                x.answer(request);
            }
            for (int line = 0; line < 40; line++) {
                check.same("asker " + asker + ", line " + line, x.holds(asker, line), x.holdsByLog(asker, line));
            }
            check.same("more than was given to asker " + asker, true, x.held(asker) > x.given(asker));
        }
    }

    private static void documents() {
        check.term("Documents and lines", "At most 8 documents have the numbers 0 to n - 1.");
        check.fails("no document yet", NO_SUCH, Offices::empty, o -> o.lines(0));
        Archivepress x = new Archivepress();
        for (int number = 0; number < 8; number++) {
            check.same("the number", number, x.addDocument());
            check.same("is there", 0, x.lines(number));
            int next = number + 1;
            check.fails("the next one is not", NO_SUCH, () -> Offices.withDocuments(next), o -> o.lines(next));
        }
        check.fails("the ninth", STATE, Offices::fullOfDocuments, o -> o.addDocument());
        check.fails("no line in the ninth", NO_SUCH, Offices::fullOfDocuments, o -> o.addLine(8, 0));
    }

    private static Archivepress fullOfLinesInAllDocuments() {
        Archivepress x = Offices.fullOfDocuments();
        for (int line = 0; line < 40; line++) {
            x.addLine(7 - line % 8, line);
        }
        return x;
    }

    private static void lines() {
        check.term("Documents and lines", "At most 40 lines have the numbers 0 to n - 1 in the order in which they "
                + "were added, over all documents; a line is in a document and has a value from 0 to 9999.");
        Archivepress x = Offices.fullOfDocuments();
        for (int number = 0; number < 40; number++) {
            check.same("the number", number, x.addLine(7 - number % 8, number));
        }
        for (int number = 0; number < 40; number++) {
            check.same("the document of line " + number, 7 - number % 8, x.documentOf(number));
            check.same("the value of line " + number, number, x.rescan(number, 9999));
            check.same("the greatest value of line " + number, 9999, x.rescan(number, 0));
            check.same("the least value of line " + number, 0, x.rescan(number, 1));
        }
        for (int i = 0; i < 8; i++) {
            int document = i;
            check.fails("the line 41", STATE, TermsTest::fullOfLinesInAllDocuments, o -> o.addLine(document, 0));
        }
        check.fails("no line yet", NO_SUCH, Offices::fullOfDocuments, o -> o.documentOf(0));
        for (int value : Offices.outside(9999)) {
            check.fails("no such value", WRONG, Offices::twoDocuments, o -> o.addLine(0, value));
            check.fails("no such value anew", WRONG, Offices::twoDocuments, o -> o.rescan(0, value));
        }
    }

    private static void indexes() {
        check.term("Documents and lines", "The lines of a document have indexes from 0 in this order, too.");
        Archivepress x = fullOfLinesInAllDocuments();
        for (int line = 0; line < 40; line++) {
            check.same("of line " + line, line / 8, x.indexOf(line));
        }
        Archivepress one = Offices.fullOfLines();
        for (int line = 0; line < 40; line++) {
            check.same("of line " + line + " in a document with all lines", line, one.indexOf(line));
        }
    }

    private static void rules() {
        check.term("Rules and spans", "At most 8 rules have the numbers 0 to n - 1; a rule has two values and a last "
                + "day, and hides, up to this day, all lines with a value from the first one to the second one.");
        Archivepress each = Offices.withLines(9);
        check.same("no rule yet", 0, each.hidden());
        for (int rule = 0; rule < 8; rule++) {
            check.same("the number", rule, each.addRule(10 * (rule + 1), 10 * (rule + 1), rule));
            check.same("each one hides", rule + 1, each.hidden());
        }
        check.fails("the ninth", STATE, Offices::fullOfRules, o -> o.addRule(0, 9999, 9999));
        for (int day = 1; day < 10; day++) {
            each.pass(1);
            check.same("each one up to its own last day", Math.max(0, 8 - day), each.hidden());
        }
        int[] values = {19, 20, 21, 39, 40, 41};
        boolean[] due = {false, true, true, true, true, false};
        Archivepress x = Offices.withDocuments(2);
        x.addRule(20, 40, 3);
        for (int line = 0; line < values.length; line++) {
            x.addLine(line % 2, values[line]);
            check.same("the value " + values[line], due[line], x.isHidden(line));
        }
        x.pass(3);
        check.same("on the last day", 4, x.hidden());
        x.pass(1);
        check.same("a day later", 0, x.hidden());
    }

    private static void spans() {
        check.term("Rules and spans", SPANS);
        Archivepress each = Offices.withLines(13);
        check.same("no span yet", 0, each.hidden());
        for (int span = 0; span < 12; span++) {
            check.same("the number", span, each.addSpan(0, span, span, span));
            check.same("each one hides", span + 1, each.hidden());
        }
        check.fails("the thirteenth", STATE, Offices::fullOfSpans, o -> o.addSpan(0, 0, 39, 9999));
        for (int day = 1; day < 14; day++) {
            each.pass(1);
            check.same("each one up to its own last day", Math.max(0, 12 - day), each.hidden());
        }
    }

    private static void spanHides() {
        check.term("Rules and spans", SPANS);
        Archivepress x = Offices.withLines(6);
        x.addDocument();
        for (int line = 0; line < 6; line++) {
            x.addLine(1, 10);
        }
        x.addSpan(0, 2, 4, 3);
        boolean[] due = {false, false, true, true, true, false};
        for (int index = 0; index < 6; index++) {
            check.same("the index " + index, due[index], x.isHidden(index));
            check.same("the index " + index + " of the other document", false, x.isHidden(6 + index));
        }
        x.addSpan(1, 6, 7, 3);
        check.same("the first index, added later", true, x.isHidden(x.addLine(1, 10)));
        check.same("the second index, added later", true, x.isHidden(x.addLine(1, 10)));
        check.same("one beyond it, added later", false, x.isHidden(x.addLine(1, 10)));
        x.pass(3);
        check.same("on the last day", 5, x.hidden());
        x.lift(0);
        check.same("when one was lifted", 2, x.hidden());
        x.pass(1);
        check.same("a day later", 0, x.hidden());
    }

    private static void hiddenToday() {
        check.term("Rules and spans", "A line is hidden if a rule or a span hides it today.");
        Archivepress x = Offices.withLines(4);
        check.same("with no rule and no span", false, x.isHidden(0));
        x.addRule(20, 30, 5);
        x.addSpan(0, 2, 3, 7);
        check.same("by neither", false, x.isHidden(0));
        check.same("by a rule", true, x.isHidden(1));
        check.same("by both", true, x.isHidden(2));
        check.same("by a span", true, x.isHidden(3));
        x.pass(6);
        check.same("by a rule that has ended", false, x.isHidden(1));
        check.same("by a span alone", true, x.isHidden(2));
        x.pass(2);
        check.same("by both, ended", false, x.isHidden(2));
        check.same("by a span that has ended", false, x.isHidden(3));
    }

    /** Asker 0 holds the lines 0 to 20, all of document 0, of which two at a time could tell one of ten more. */
    private static Archivepress readyForTenJoins() {
        Archivepress x = Offices.withLines(21);
        Offices.give(x, 0, 0);
        x.addDocument();
        for (int line = 21; line < 32; line++) {
            x.addLine(1, 0);
        }
        return x;
    }

    private static Archivepress withTenJoins() {
        Archivepress x = readyForTenJoins();
        for (int join = 0; join < 10; join++) {
            x.addJoin(2 * join, 2 * join + 1, 21 + join);
        }
        return x;
    }

    private static void joins() {
        check.term("Joins", "At most 10 joins have the numbers 0 to n - 1: two different lines tell a third one.");
        Archivepress x = readyForTenJoins();
        check.same("no join yet", 21, x.held(0));
        for (int join = 0; join < 10; join++) {
            check.same("the number", join, x.addJoin(2 * join, 2 * join + 1, 21 + join));
            check.same("each one tells", 22 + join, x.held(0));
            check.same("just its third line", true, x.holds(0, 21 + join));
        }
        check.fails("the eleventh", STATE, TermsTest::withTenJoins, o -> o.addJoin(0, 20, 31));
        check.fails("not two different lines", WRONG, TermsTest::readyForTenJoins, o -> o.addJoin(0, 0, 31));
        check.fails("no third line", WRONG, TermsTest::readyForTenJoins, o -> o.addJoin(0, 1, 1));
        check.fails("no third line either", WRONG, TermsTest::readyForTenJoins, o -> o.addJoin(0, 1, 0));
        Archivepress told = Offices.withKey();
        told.addJoin(0, 5, 1);
        check.same("the line of one who holds one of the two is not enough", 1, told.held(0));
    }

    /** Joins in the order in which one pass over them finds but one link of the chain. */
    private static void whatAskersHold() {
        check.term("Joins", WHAT_IS_HELD);
        Archivepress x = Offices.withLines(2);
        check.same("nothing was given", 0, x.held(0));
        x.addDocument();
        for (int line = 2; line < 12; line++) {
            x.addLine(1, 5000);
        }
        for (int first = 9; first >= 0; first--) {
            x.addJoin(first, first + 1, first + 2);
        }
        check.same("two were given", 2, Offices.give(x, 0, 0));
        check.same("and so on, to the end of a chain of ten", 12, x.held(0));
        check.same("to this asker alone", 0, x.held(1));
        Archivepress one = Offices.withKey();
        one.addJoin(0, 5, 1);
        one.addJoin(1, 5, 2);
        check.same("one of two is not enough", 1, one.held(0));
        Archivepress round = Offices.withLines(3);
        round.addJoin(0, 1, 2);
        round.addJoin(1, 2, 0);
        round.addJoin(2, 0, 1);
        check.same("of joins in a round", 2, Offices.give(round, 0, 0));
        check.same("all of them", 3, round.held(0));
    }

    private static void heldStaysHeld() {
        check.term("Joins", WHAT_IS_HELD);
        Archivepress x = Offices.withLines(3);
        x.addJoin(0, 1, 2);
        Offices.give(x, 0, 0);
        x.addRule(0, 9999, 9999);
        x.addSpan(0, 0, 39, 9999);
        for (int line = 0; line < 3; line++) {
            check.same("all is hidden later, line " + line, true, x.holds(0, line));
            check.same("all is hidden later, by the log, line " + line, true, x.holdsByLog(0, line));
        }
        x.rescan(2, 31);
        x.lift(0);
        Offices.onDay(x, 300);
        Offices.give(x, 0, 0);
        check.same("scanned anew, lifted, asked for again", 3, x.held(0));
    }

    private static void askers() {
        check.term("Requests", "There are the askers 0 to 4.");
        for (int asker = 0; asker < 5; asker++) {
            Archivepress x = Offices.twoDocuments();
            check.same("a line that is not held", false, x.holds(asker, 0));
            check.same("a reason", '-', x.why(asker, 0));
            check.same("a request", 0, x.request(asker, 0));
            check.same("an answer", 3, x.answer(0));
            check.same("held", 3, x.held(asker));
            check.same("given", 3, x.given(asker));
            check.same("owed", 15, x.owed(asker));
            check.same("paid", 14, x.pay(asker, 1));
            for (int other = 0; other < 5; other++) {
                check.same("an asker alone", asker == other, x.holdsByLog(other, 0));
            }
        }
        for (int asker : Offices.beyond(5)) {
            check.fails("no such asker", WRONG, Offices::twoDocuments, o -> o.held(asker));
            check.fails("no such asker", WRONG, Offices::twoDocuments, o -> o.request(asker, 0));
        }
    }

    private static void requests() {
        check.term("Requests", "At most 20 requests have the numbers 0 to n - 1 in the order in which they were made; "
                + "a request is of an asker for a document, and waits, 'w', is answered, 'a', or withdrawn, 'x'.");
        check.fails("no request yet", NO_SUCH, Offices::twoDocuments, o -> o.state(0));
        Archivepress x = Offices.withDocuments(4);
        for (int document = 0; document < 4; document++) {
            x.addLine(document, document);
        }
        for (int number = 0; number < 20; number++) {
            check.same("the number", number, x.request(number % 5, number / 5));
            check.same("waits", 'w', x.state(number));
        }
        check.fails("the request 21", STATE, Offices::fullOfRequests, o -> o.request(0, 4));
        x.answer(7);
        check.same("is answered", 'a', x.state(7));
        check.same("was of the asker 2 for the document 1", true, x.holds(2, 1));
        check.same("and nobody else's", 1, x.holders(1));
        x.withdraw(19);
        check.same("is withdrawn", 'x', x.state(19));
        for (int number = 0; number < 19; number++) {
            check.same("the others wait", number == 7 ? 'a' : 'w', x.state(number));
        }
    }

    private static void linesAreGoneThrough() {
        check.term("Requests", "When it is answered, the lines of the document that the asker does not hold are gone "
                + "through by rising indexes; each one that is not withheld is given.");
        Archivepress x = Offices.withLines(4);
        x.addRule(30, 30, 9);
        x.addJoin(0, 1, 2);
        x.addJoin(3, 0, 2);
        check.same("the first of three that tell in pairs", 1, Offices.give(x, 1, 0));
        check.same("by rising indexes, the first", true, x.holds(1, 0));
        check.same("the second", false, x.holds(1, 1));
        check.same("the hidden one", false, x.holds(1, 2));
        check.same("the last", false, x.holds(1, 3));
        check.same("nothing that is held", 0, Offices.give(x, 1, 0));
        Archivepress told = Offices.withLines(3);
        told.addJoin(0, 1, 2);
        check.same("nothing that was told meanwhile", 2, Offices.give(told, 0, 0));
        check.same("nothing of no lines", 0, Offices.give(Offices.withDocuments(1), 0, 0));
        Archivepress full = Offices.fullOfLines();
        check.same("all 40 lines", 40, Offices.give(full, 0, 0));
        Archivepress hidden = Offices.withLines(2);
        hidden.addSpan(0, 0, 1, 9);
        check.same("nothing that is hidden", 0, Offices.give(hidden, 0, 0));
        check.same("nothing of another document", 3, Offices.give(Offices.twoDocuments(), 0, 0));
    }

    private static void price() {
        check.term("Requests", "The asker owes the price, which is 5 at first, for each line that is given.");
        check.same("the price at first", 5, new Archivepress().setPrice(1));
        Archivepress x = Offices.twoDocuments();
        Offices.give(x, 0, 0);
        check.same("for three lines at first", 15, x.owed(0));
        x.setPrice(7);
        Offices.give(x, 0, 1);
        check.same("and for one at another price", 22, x.owed(0));
        Offices.give(x, 0, 0);
        check.same("and for none", 22, x.owed(0));
        x.setPrice(0);
        Offices.give(x, 1, 0);
        check.same("for nothing", 0, x.owed(1));
        Archivepress told = Offices.withLines(3);
        told.addJoin(0, 1, 2);
        Offices.give(told, 0, 0);
        check.same("not for a line that is told", 10, told.owed(0));
    }

    private static void reasons() {
        check.term("Causes", REASONS);
        Archivepress x = Offices.twoDocuments();
        Rows.rowIs(check, "of no rule, no span and no join", "-", x, 0, 0);
        x.addRule(1, 2, 9);
        x.addSpan(0, 1, 2, 9);
        Rows.rowIs(check, "of a free line", "-", x, 0, 0);
        Rows.rowIs(check, "by a rule and a span", "rs", x, 0, 1);
        Rows.rowIs(check, "by a rule", "r", x, 0, 2);
        Rows.rowIs(check, "by a span", "s", x, 0, 3);
        x.pass(9);
        Rows.rowIs(check, "on the last day", "rs", x, 0, 1);
        x.pass(1);
        Rows.rowIs(check, "a day later", "-", x, 0, 1);
    }

    private static void reasonJoin() {
        check.term("Causes", REASONS);
        Archivepress x = Offices.withKey();
        x.addJoin(0, 5, 1);
        x.addJoin(1, 5, 2);
        Rows.rowIs(check, "with nothing hidden", "-", x, 0, 0);
        x.addRule(30, 30, 9);
        Rows.rowIs(check, "of a chain of joins", "jr", x, 0, 0);
        Rows.rowIs(check, "of its second link", "jr", x, 0, 1);
        Rows.rowIs(check, "of the hidden line", "r", x, 0, 2);
        Rows.rowIs(check, "of a line beside", "-", x, 0, 3);
        Rows.rowIs(check, "for one who holds nothing", "-", x, 1, 0);
        x.addSpan(0, 0, 0, 9);
        Rows.rowIs(check, "if a span hides it, not by the join", "s", x, 0, 0);
        x.addRule(10, 10, 9);
        x.lift(0);
        Rows.rowIs(check, "if a rule hides it, not by the join", "r", x, 0, 0);
        x.addSpan(0, 3, 3, 9);
        x.addJoin(3, 5, 1);
        x.addRule(20, 20, 9);
        Rows.rowIs(check, "if a span hides it, not by the join that tells a lower line", "s", x, 0, 3);
        x.addRule(50, 50, 9);
        x.addJoin(4, 5, 3);
        Rows.rowIs(check, "if a rule hides it, not by the join that tells a lower line", "r", x, 0, 4);
        Archivepress held = Offices.withKey();
        held.addDocument();
        held.addLine(2, 7);
        Offices.give(held, 0, 2);
        held.addJoin(0, 5, 6);
        held.addRule(7, 7, 9);
        Rows.rowIs(check, "that tells a hidden line held already", "-", held, 0, 0);
        held.addJoin(0, 6, 1);
        held.addSpan(0, 1, 1, 9);
        Rows.rowIs(check, "that tells another one, too", "js", held, 0, 0);
    }

    /** The hidden line 2 is not given, but told to the asker 0 before it is hidden. */
    private static void reasonJoinNotForToldLines() {
        check.term("Causes", REASONS);
        Archivepress x = Offices.withKey();
        x.addDocument();
        x.addLine(2, 7);
        x.addJoin(5, 6, 2);
        Offices.give(x, 0, 2);
        x.addJoin(0, 5, 2);
        x.addRule(30, 30, 9);
        Rows.rowIs(check, "that tells a hidden line which is held for it was told", "-", x, 0, 0);
        Offices.give(x, 1, 1);
        Rows.rowIs(check, "that tells it to one who does not hold it", "jr", x, 1, 0);
    }

    private static void ruleIsCausedBySpan() {
        check.term("Causes", "If both 'r' and 's' apply, 'r' is caused by 's'.");
        Archivepress x = Offices.withLines(1);
        x.addRule(10, 10, 5);
        x.addSpan(0, 0, 0, 3);
        Rows.rowIs(check, "of both", "rs", x, 0, 0);
        x.addRule(0, 20, 5);
        x.addSpan(0, 0, 1, 3);
        Rows.rowIs(check, "of two of both", "rs", x, 0, 0);
        x.pass(4);
        Rows.rowIs(check, "when the spans have ended", "r", x, 0, 0);
        Archivepress span = Offices.withLines(1);
        span.addRule(10, 10, 3);
        span.addSpan(0, 0, 0, 5);
        span.pass(4);
        Rows.rowIs(check, "when the rule has ended", "s", span, 0, 0);
    }

    private static void joinIsCausedByLowestLine() {
        check.term("Causes", LOWEST_LINE);
        Archivepress x = Offices.withKey();
        x.addJoin(0, 5, 4);
        x.addJoin(0, 4, 2);
        x.addJoin(0, 4, 1);
        x.addRule(50, 50, 9);
        Rows.rowIs(check, "one hidden line", "jr", x, 0, 0);
        x.addSpan(0, 2, 2, 5);
        Rows.rowIs(check, "the lowest number, not the first told", "js", x, 0, 0);
        x.addRule(30, 30, 3);
        Rows.rowIs(check, "the lowest number has both", "jrs", x, 0, 0);
        x.addRule(20, 20, 1);
        Rows.rowIs(check, "a lower number yet", "jr", x, 0, 0);
        x.pass(2);
        Rows.rowIs(check, "when that one is free", "jrs", x, 0, 0);
        x.pass(2);
        Rows.rowIs(check, "when its rule has ended", "js", x, 0, 0);
        x.pass(2);
        Rows.rowIs(check, "when its span has ended", "jr", x, 0, 0);
        x.pass(4);
        Rows.rowIs(check, "when all has ended", "-", x, 0, 0);
    }

    private static void joinIsCausedByFirstAndLastLine() {
        check.term("Causes", LOWEST_LINE);
        Archivepress x = Offices.withDocuments(2);
        x.addLine(1, 1);
        for (int line = 1; line < 38; line++) {
            x.addLine(0, 2);
        }
        x.addLine(1, 3);
        x.addLine(1, 4);
        Offices.give(x, 0, 0);
        x.addJoin(38, 37, 39);
        x.addRule(4, 4, 9);
        Rows.rowIs(check, "the last line of all", "jr", x, 0, 38);
        x.addJoin(38, 1, 0);
        x.addSpan(1, 0, 0, 5);
        Rows.rowIs(check, "the first line of all", "js", x, 0, 38);
        x.pass(6);
        Rows.rowIs(check, "the last one, when the first one is free", "jr", x, 0, 38);
    }

    private static void root() {
        check.term("Causes", "The root is the last cause of all.");
        Archivepress x = Offices.withKey();
        x.addJoin(0, 5, 1);
        x.addRule(20, 20, 9);
        check.same("of one cause", 'r', x.root(0, 1));
        check.same("of two causes", 'r', x.root(0, 0));
        x.addSpan(0, 1, 1, 3);
        check.same("of another two", 's', x.root(0, 1));
        check.same("of three causes", 's', x.root(0, 0));
        x.pass(4);
        check.same("when the span has ended", 'r', x.root(0, 0));
    }

    private static void firstAndLastDay() {
        check.term("Days", "The day is 0 at first, and 9999 is the last one.");
        check.same("the first day", 0, new Archivepress().day());
        Archivepress x = Offices.onDay(Offices.withLines(2), 9998);
        check.same("to the last day", 0, x.pass(1));
        check.same("the last day", 9999, x.day());
        check.same("up to the last day", 0, x.addRule(10, 10, 9999));
        check.same("a rule hides on it", true, x.isHidden(0));
        check.same("up to the last day", 0, x.addSpan(0, 1, 1, 9999));
        check.same("a span hides on it", true, x.isHidden(1));
        check.fails("beyond it", WRONG, () -> Offices.onDay(Offices.empty(), 9999), o -> o.pass(1));
        check.fails("far beyond it", WRONG, () -> Offices.onDay(Offices.empty(), 9999), o -> o.pass(90));
        check.fails("a rule beyond it", WRONG, Offices::twoDocuments, o -> o.addRule(0, 0, 10000));
        check.fails("a span beyond it", WRONG, Offices::twoDocuments, o -> o.addSpan(0, 0, 0, 10000));
    }

    private static void lateness() {
        check.term("Days", "A request that waits is late if more than 20 days have passed since it was made.");
        Archivepress none = Offices.twoDocuments();
        none.pass(90);
        check.same("no request", 0, none.late());
        Archivepress x = Offices.onDay(Offices.twoDocuments(), 7);
        x.request(0, 0);
        x.request(1, 0);
        x.request(2, 0);
        check.same("made today", 0, x.late());
        x.pass(20);
        check.same("20 days have passed", 0, x.late());
        check.same("21 days have passed", 3, x.pass(1));
        check.same("21 days have passed", 3, x.late());
        x.answer(0);
        check.same("one is answered", 2, x.late());
        x.withdraw(1);
        check.same("one is withdrawn", 1, x.late());
        x.request(0, 0);
        check.same("one that is made then", 1, x.late());
        Archivepress last = Offices.onDay(Offices.twoDocuments(), 9978);
        last.request(0, 0);
        check.same("up to the last day", 1, last.pass(21));
    }
}
