import java.util.NoSuchElementException;

/** Promises 14 to 21: what askers hold, and why they are not given a line. */
public final class AskersTest {
    private static final Class<IndexOutOfBoundsException> NO_SUCH = IndexOutOfBoundsException.class;
    private static final Class<IllegalArgumentException> WRONG = IllegalArgumentException.class;
    private static final Class<IllegalStateException> STATE = IllegalStateException.class;
    private static final int[] NO_ASKERS = {-1, 5, Integer.MIN_VALUE, Integer.MAX_VALUE};
    private static final int[] NO_LINES = {-1, 4, Integer.MIN_VALUE, Integer.MAX_VALUE};

    private static final Check check = new Check("AskersTest");

    public static void main(String[] args) {
        holding();
        heldStaysHeld();
        holdingByOldAndNewJoins();
        holdingWrong();
        hiddenLines();
        joinReason();
        joinReasonLowestLine();
        joinReasonNotForHeldLines();
        reasonsChangeWithDays();
        reasonsWrong();
        check.end();
    }

    private static void rowIs(String what, String due, Archivepress x, int asker, int line) {
        check.same("19 why " + what, due.charAt(0), x.why(asker, line));
        check.same("21 causes " + what, due.equals("-") ? 0 : due.length(), x.causes(asker, line));
        String root = due.equals("-") ? "throws.java.util.NoSuchElementException"
                : due.substring(due.length() - 1);
        check.same("20 root " + what, root, Check.answerOf(x, o -> o.root(asker, line)));
    }

    private static void holdsIs(String what, boolean due, Archivepress x, int asker, int line) {
        check.same("14 holds " + what, due, x.holds(asker, line));
        check.same("15 holdsByLog " + what, due, x.holdsByLog(asker, line));
    }

    private static void holding() {
        Archivepress x = Offices.twoDocuments();
        holdsIs("before", false, x, 4, 0);
        Offices.give(x, 4, 0);
        Offices.give(x, 0, 1);
        for (int line = 0; line < 4; line++) {
            holdsIs("asker 4, line " + line, line != 2, x, 4, line);
            holdsIs("asker 0, line " + line, line == 2, x, 0, line);
            holdsIs("asker 1, line " + line, false, x, 1, line);
            check.same("18 holders " + line, 1, x.holders(line));
        }
        check.same("16 held(4)", 3, x.held(4));
        check.same("16 held(0)", 1, x.held(0));
        check.same("16 held(1)", 0, x.held(1));
        check.same("17 given(4)", 3, x.given(4));
        check.same("17 given(0)", 1, x.given(0));
        check.same("17 given(1)", 0, x.given(1));
        for (int asker = 0; asker < 4; asker++) {
            Offices.give(x, asker, 0);
        }
        check.same("18 all askers", 5, x.holders(0));
        check.same("18 one asker", 1, x.holders(2));
        Archivepress full = Offices.withLines(40);
        Offices.give(full, 2, 0);
        check.same("16 all lines", 40, full.held(2));
        check.same("17 all lines", 40, full.given(2));
        holdsIs("the last line", true, full, 2, 39);
    }

    private static void heldStaysHeld() {
        Archivepress x = Offices.withLines(3);
        x.addJoin(0, 1, 2);
        Offices.give(x, 1, 0);
        check.same("16 two given, three held", 3, x.held(1));
        check.same("17 two given, three held", 2, x.given(1));
        holdsIs("told by two lines", true, x, 1, 2);
        x.addRule(0, 9999, 9999);
        x.addSpan(0, 0, 39, 9999);
        check.same("16 held, whatever is hidden later", 3, x.held(1));
        holdsIs("whatever is hidden later", true, x, 1, 2);
        check.same("18 whatever is hidden later", 1, x.holders(2));
    }

    /** A chain of all ten joins, given in the order in which a single pass finds but one link. */
    private static void holdingByOldAndNewJoins() {
        Archivepress x = Offices.withLines(2);
        x.addDocument();
        for (int i = 0; i < 10; i++) {
            x.addLine(1, 5000 + i);
        }
        for (int i = 9; i >= 0; i--) {
            x.addJoin(i, i + 1, i + 2);
        }
        check.same("17 two are given", 2, Offices.give(x, 0, 0));
        check.same("16 twelve are held", 12, x.held(0));
        for (int line = 0; line < 12; line++) {
            holdsIs("of a chain, line " + line, true, x, 0, line);
        }
        check.same("17 two were given", 2, x.given(0));
    }

    private static void holdingWrong() {
        for (int asker : NO_ASKERS) {
            check.fails("14 no asker", WRONG, Offices::twoDocuments, o -> o.holds(asker, 0));
            check.fails("15 no asker", WRONG, Offices::twoDocuments, o -> o.holdsByLog(asker, 0));
            check.fails("14 asker before line", WRONG, Offices::twoDocuments, o -> o.holds(asker, 4));
            check.fails("15 asker before line", WRONG, Offices::twoDocuments, o -> o.holdsByLog(asker, 4));
            check.fails("16 no asker", WRONG, Offices::twoDocuments, o -> o.held(asker));
            check.fails("17 no asker", WRONG, Offices::twoDocuments, o -> o.given(asker));
        }
        for (int line : NO_LINES) {
            check.fails("14 no line", NO_SUCH, Offices::twoDocuments, o -> o.holds(4, line));
            check.fails("15 no line", NO_SUCH, Offices::twoDocuments, o -> o.holdsByLog(4, line));
            check.fails("18 no line", NO_SUCH, Offices::twoDocuments, o -> o.holders(line));
        }
        check.fails("14 the line 40", NO_SUCH, () -> Offices.withLines(40), o -> o.holds(0, 40));
        check.fails("15 the line 40", NO_SUCH, () -> Offices.withLines(40), o -> o.holdsByLog(0, 40));
        check.fails("18 the line 40", NO_SUCH, () -> Offices.withLines(40), o -> o.holders(40));
    }

    private static void hiddenLines() {
        Archivepress x = Offices.twoDocuments();
        x.addRule(1, 2, 9);
        x.addSpan(0, 1, 2, 9);
        rowIs("of a free line", "-", x, 0, 0);
        rowIs("by a rule and a span", "rs", x, 0, 1);
        rowIs("by a rule", "r", x, 0, 2);
        rowIs("by a span", "s", x, 0, 3);
        x.addRule(0, 5, 9);
        x.addSpan(0, 0, 39, 9);
        rowIs("by two rules", "r", x, 4, 2);
        rowIs("by two rules and two spans", "rs", x, 4, 1);
    }

    private static void joinReason() {
        Archivepress x = Offices.withLines(4);
        x.addDocument();
        x.addLine(1, 5000);
        x.addJoin(0, 4, 1);
        x.addJoin(1, 2, 3);
        Offices.give(x, 0, 1);
        rowIs("with nothing hidden", "-", x, 0, 0);
        x.addSpan(0, 1, 1, 9);
        rowIs("of a join that tells a span's line", "js", x, 0, 0);
        rowIs("for one who holds neither", "-", x, 1, 0);
        x.addRule(20, 20, 9);
        rowIs("of a join that tells a line hidden by both", "jrs", x, 0, 0);
        x.lift(0);
        rowIs("of a join that tells a rule's line", "jr", x, 0, 0);
        x.rescan(1, 21);
        rowIs("of a line scanned anew", "-", x, 0, 0);
        Archivepress far = Offices.withLines(5);
        far.addDocument();
        far.addLine(1, 5000);
        far.addJoin(1, 5, 2);
        far.addJoin(0, 5, 1);
        far.addRule(30, 30, 9);
        Offices.give(far, 3, 1);
        rowIs("of a chain of joins", "jr", far, 3, 0);
        rowIs("of its second link", "jr", far, 3, 1);
        rowIs("of the hidden line itself", "r", far, 3, 2);
        rowIs("of a line beside", "-", far, 3, 3);
    }

    private static void joinReasonLowestLine() {
        Archivepress x = Offices.withLines(5);
        x.addDocument();
        x.addLine(1, 5000);
        Offices.give(x, 0, 1);
        x.addJoin(0, 5, 4);
        x.addJoin(0, 4, 2);
        x.addJoin(0, 4, 1);
        x.addRule(50, 50, 9);
        rowIs("one hidden line", "jr", x, 0, 0);
        x.addSpan(0, 2, 2, 5);
        rowIs("the lowest number, not the first told", "js", x, 0, 0);
        x.addRule(30, 30, 3);
        rowIs("the lowest number has both", "jrs", x, 0, 0);
        x.addRule(20, 20, 1);
        rowIs("a lower number yet", "jr", x, 0, 0);
        x.pass(2);
        rowIs("when that one is free", "jrs", x, 0, 0);
        x.pass(2);
        rowIs("when its rule has ended", "js", x, 0, 0);
        x.pass(2);
        rowIs("when its span has ended", "jr", x, 0, 0);
        x.pass(4);
        rowIs("when all has ended", "-", x, 0, 0);
    }

    private static void joinReasonNotForHeldLines() {
        Archivepress x = Offices.withLines(3);
        x.addDocument();
        x.addDocument();
        x.addLine(1, 5000);
        x.addLine(2, 6000);
        Offices.give(x, 0, 1);
        Offices.give(x, 0, 2);
        x.addJoin(3, 4, 1);
        x.addJoin(0, 3, 1);
        x.addRule(20, 20, 9);
        rowIs("that tells a hidden line held already", "-", x, 0, 0);
        Offices.give(x, 1, 1);
        rowIs("that tells one who does not hold it", "jr", x, 1, 0);
        check.same("24 a line is given though the hidden line that it tells is held", 2, Offices.give(x, 0, 0));
        Archivepress old = Offices.withLines(4);
        old.addJoin(0, 1, 2);
        old.addRule(20, 30, 9);
        rowIs("of a hidden line that would tell another one", "r", old, 0, 1);
    }

    private static void reasonsChangeWithDays() {
        Archivepress x = Offices.withLines(1);
        x.addRule(10, 10, 5);
        x.addSpan(0, 0, 0, 3);
        rowIs("at first", "rs", x, 0, 0);
        x.pass(3);
        rowIs("on the span's last day", "rs", x, 0, 0);
        x.pass(1);
        rowIs("a day later", "r", x, 0, 0);
        x.pass(1);
        rowIs("on the rule's last day", "r", x, 0, 0);
        x.pass(1);
        rowIs("a day later", "-", x, 0, 0);
    }

    private static Archivepress askerTwoHoldsDocumentZero() {
        Archivepress x = Offices.twoDocuments();
        Offices.give(x, 2, 0);
        x.addRule(0, 9999, 9999);
        return x;
    }

    private static void reasonsWrong() {
        for (int asker : NO_ASKERS) {
            check.fails("19 no asker", WRONG, Offices::twoDocuments, o -> o.why(asker, 0));
            check.fails("20 no asker", WRONG, Offices::twoDocuments, o -> o.root(asker, 0));
            check.fails("21 no asker", WRONG, Offices::twoDocuments, o -> o.causes(asker, 0));
            check.fails("19 asker before line", WRONG, Offices::twoDocuments, o -> o.why(asker, 4));
            check.fails("20 asker before line", WRONG, Offices::twoDocuments, o -> o.root(asker, 4));
            check.fails("21 asker before line", WRONG, Offices::twoDocuments, o -> o.causes(asker, 4));
        }
        for (int line : NO_LINES) {
            check.fails("19 no line", NO_SUCH, Offices::twoDocuments, o -> o.why(0, line));
            check.fails("20 no line", NO_SUCH, Offices::twoDocuments, o -> o.root(0, line));
            check.fails("21 no line", NO_SUCH, Offices::twoDocuments, o -> o.causes(0, line));
        }
        check.fails("19 the line 40", NO_SUCH, () -> Offices.withLines(40), o -> o.why(0, 40));
        check.fails("20 the line 40", NO_SUCH, () -> Offices.withLines(40), o -> o.root(0, 40));
        check.fails("21 the line 40", NO_SUCH, () -> Offices.withLines(40), o -> o.causes(0, 40));
        check.fails("19 held", STATE, AskersTest::askerTwoHoldsDocumentZero, o -> o.why(2, 3));
        check.fails("20 held", STATE, AskersTest::askerTwoHoldsDocumentZero, o -> o.root(2, 3));
        check.fails("21 held", STATE, AskersTest::askerTwoHoldsDocumentZero, o -> o.causes(2, 3));
        check.fails("20 not withheld", NoSuchElementException.class, Offices::twoDocuments, o -> o.root(0, 0));
        check.same("19 another asker does not hold it", 'r', askerTwoHoldsDocumentZero().why(1, 3));
    }
}
