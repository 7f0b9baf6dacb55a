/** Promises 8 to 13: rules, spans and joins. */
public final class HidingTest {
    private static final Class<IndexOutOfBoundsException> NO_SUCH = IndexOutOfBoundsException.class;
    private static final Class<IllegalArgumentException> WRONG = IllegalArgumentException.class;
    private static final Class<IllegalStateException> STATE = IllegalStateException.class;
    private static final int[] FAR = {-1, Integer.MIN_VALUE, Integer.MAX_VALUE};

    private static final Check check = new Check("HidingTest");

    public static void main(String[] args) {
        addRule();
        ruleDays();
        addRuleWrong();
        addSpan();
        spanDays();
        addSpanWrong();
        lift();
        liftWrong();
        hidden();
        addJoin();
        addJoinWrong();
        check.end();
    }

    private static Archivepress dayFive() {
        return Offices.onDay(Offices.twoDocuments(), 5);
    }

    private static Archivepress fullOfRules() {
        Archivepress x = Offices.withLines(3);
        for (int i = 0; i < 8; i++) {
            x.addRule(i, i, i);
        }
        return x;
    }

    private static Archivepress fullOfSpans() {
        Archivepress x = Offices.withLines(3);
        for (int i = 0; i < 12; i++) {
            x.addSpan(0, 5, 5, i);
        }
        return x;
    }

    private static Archivepress fullOfJoins() {
        Archivepress x = Offices.withLines(6);
        for (int i = 0; i < 10; i++) {
            x.addJoin(3, 4, 5);
        }
        return x;
    }

    private static void addRule() {
        Archivepress x = Offices.withLines(4);
        for (int i = 0; i < 6; i++) {
            check.same("8 number", i, x.addRule(9990 + i, 9990 + i, 9999));
        }
        check.same("8 the seventh rule", 6, x.addRule(20, 30, 3));
        check.same("8 below the first value", false, x.isHidden(0));
        check.same("8 the first value", true, x.isHidden(1));
        check.same("8 the second value", true, x.isHidden(2));
        check.same("8 above the second value", false, x.isHidden(3));
        x.rescan(2, 25);
        check.same("8 between", true, x.isHidden(2));
        x.rescan(2, 19);
        check.same("8 one below", false, x.isHidden(2));
        x.rescan(2, 31);
        check.same("8 one above", false, x.isHidden(2));
        check.same("8 all values", 7, x.addRule(0, 9999, 0));
        check.same("8 all are hidden", 4, x.hidden());
        x.rescan(0, 0);
        x.rescan(1, 9999);
        check.same("8 the least and the greatest are hidden", 4, x.hidden());
        check.same("8 a line added later", true, x.isHidden(x.addLine(0, 1)));
    }

    private static void ruleDays() {
        Archivepress x = Offices.onDay(Offices.withLines(1), 5);
        x.addRule(10, 10, 5);
        check.same("8 the last day is today", true, x.isHidden(0));
        x.pass(1);
        check.same("8 a day later", false, x.isHidden(0));
        x.addRule(10, 10, 8);
        x.pass(2);
        check.same("8 the last day has come", true, x.isHidden(0));
        x.pass(1);
        check.same("8 the last day has passed", false, x.isHidden(0));
        Offices.onDay(x, 9999);
        x.addRule(10, 10, 9999);
        check.same("8 on the last day of all", true, x.isHidden(0));
    }

    private static void addRuleWrong() {
        for (int value : new int[] {-1, 10000, Integer.MIN_VALUE, Integer.MAX_VALUE}) {
            check.fails("8 first value", WRONG, HidingTest::dayFive, o -> o.addRule(value, 9999, 5));
            check.fails("8 second value", WRONG, HidingTest::dayFive, o -> o.addRule(0, value, 5));
            check.fails("8 both values", WRONG, HidingTest::dayFive, o -> o.addRule(value, value, 5));
            check.fails("8 value before full", WRONG, HidingTest::fullOfRules, o -> o.addRule(value, 9999, 5));
        }
        check.fails("8 falling values", WRONG, HidingTest::dayFive, o -> o.addRule(5, 4, 5));
        check.fails("8 yesterday", WRONG, HidingTest::dayFive, o -> o.addRule(1, 1, 4));
        check.fails("8 the day -1", WRONG, Offices::twoDocuments, o -> o.addRule(1, 1, -1));
        check.fails("8 the day 10000", WRONG, HidingTest::dayFive, o -> o.addRule(1, 1, 10000));
        check.fails("8 the ninth rule", STATE, HidingTest::fullOfRules, o -> o.addRule(0, 9999, 9999));
        check.fails("8 falling before full", WRONG, HidingTest::fullOfRules, o -> o.addRule(5, 4, 5));
        check.fails("8 day before full", WRONG, HidingTest::fullOfRules, o -> o.addRule(5, 5, 10000));
        Archivepress ended = Offices.onDay(fullOfRules(), 50);
        check.same("8 rules that have ended count, too", "throws.java.lang.IllegalStateException",
                Check.answerOf(ended, o -> o.addRule(1, 1, 60)));
    }

    private static void addSpan() {
        Archivepress x = new Archivepress();
        x.addDocument();
        x.addDocument();
        for (int i = 0; i < 5; i++) {
            x.addLine(0, 7);
            x.addLine(1, 7);
        }
        check.same("9 number", 0, x.addSpan(1, 1, 2, 9));
        boolean[] due = {false, false, false, true, false, true, false, false, false, false};
        for (int line = 0; line < 10; line++) {
            check.same("9 isHidden " + line, due[line], x.isHidden(line));
        }
        check.same("9 number", 1, x.addSpan(0, 5, 39, 9));
        check.same("9 hides no line yet", 2, x.hidden());
        check.same("9 a line added later", true, x.isHidden(x.addLine(0, 7)));
        check.same("9 in the other document", false, x.isHidden(x.addLine(1, 7)));
        check.same("9 one index, the least", 2, x.addSpan(0, 0, 0, 9));
        check.same("9 the line with the least index", true, x.isHidden(0));
        check.same("9 the line behind it", false, x.isHidden(2));
        x.rescan(0, 8);
        check.same("9 scanned anew, hidden still", true, x.isHidden(0));
        for (int span = 3; span < 12; span++) {
            check.same("9 number", span, x.addSpan(0, 39, 39, 9));
        }
        Archivepress full = Offices.withLines(40);
        full.addSpan(0, 39, 39, 0);
        check.same("9 the greatest index", true, full.isHidden(39));
        check.same("9 that one alone", 1, full.hidden());
    }

    private static void spanDays() {
        Archivepress x = Offices.onDay(Offices.withLines(1), 5);
        x.addSpan(0, 0, 0, 5);
        check.same("9 the last day is today", true, x.isHidden(0));
        x.pass(1);
        check.same("9 a day later", false, x.isHidden(0));
        x.addSpan(0, 0, 0, 8);
        x.pass(2);
        check.same("9 the last day has come", true, x.isHidden(0));
        x.pass(1);
        check.same("9 the last day has passed", false, x.isHidden(0));
        Offices.onDay(x, 9999);
        x.addSpan(0, 0, 0, 9999);
        check.same("9 on the last day of all", true, x.isHidden(0));
    }

    private static void addSpanWrong() {
        for (int document : FAR) {
            check.fails("9 no such document", NO_SUCH, HidingTest::dayFive, o -> o.addSpan(document, 0, 1, 9));
        }
        check.fails("9 document after the last", NO_SUCH, HidingTest::dayFive, o -> o.addSpan(2, 0, 1, 9));
        for (int index : new int[] {-1, 40, Integer.MIN_VALUE, Integer.MAX_VALUE}) {
            check.fails("9 first index", WRONG, HidingTest::dayFive, o -> o.addSpan(0, index, 39, 9));
            check.fails("9 second index", WRONG, HidingTest::dayFive, o -> o.addSpan(0, 0, index, 9));
            check.fails("9 both indexes", WRONG, HidingTest::dayFive, o -> o.addSpan(0, index, index, 9));
            check.fails("9 document before index", NO_SUCH, HidingTest::dayFive, o -> o.addSpan(2, index, 39, 9));
        }
        check.fails("9 falling indexes", WRONG, HidingTest::dayFive, o -> o.addSpan(0, 2, 1, 9));
        check.fails("9 yesterday", WRONG, HidingTest::dayFive, o -> o.addSpan(0, 0, 1, 4));
        check.fails("9 the day -1", WRONG, Offices::twoDocuments, o -> o.addSpan(0, 0, 1, -1));
        check.fails("9 the day 10000", WRONG, HidingTest::dayFive, o -> o.addSpan(0, 0, 1, 10000));
        check.fails("9 document before day", NO_SUCH, HidingTest::dayFive, o -> o.addSpan(2, 0, 1, 10000));
        check.fails("9 the thirteenth span", STATE, HidingTest::fullOfSpans, o -> o.addSpan(0, 0, 1, 9));
        check.fails("9 document before full", NO_SUCH, HidingTest::fullOfSpans, o -> o.addSpan(1, 0, 1, 9));
        check.fails("9 index before full", WRONG, HidingTest::fullOfSpans, o -> o.addSpan(0, 0, 40, 9));
        check.fails("9 falling before full", WRONG, HidingTest::fullOfSpans, o -> o.addSpan(0, 2, 1, 9));
        check.fails("9 day before full", WRONG, HidingTest::fullOfSpans, o -> o.addSpan(0, 0, 1, 10000));
    }

    private static void lift() {
        Archivepress x = Offices.withLines(5);
        x.addSpan(0, 0, 3, 9);
        x.addSpan(0, 2, 2, 4);
        x.addRule(10, 10, 4);
        check.same("10 less what a rule and a span hide still", 2, x.lift(0));
        check.same("10 hidden by the rule", true, x.isHidden(0));
        check.same("10 not hidden any more", false, x.isHidden(1));
        check.same("10 hidden by the other span", true, x.isHidden(2));
        check.same("10 not hidden any more", false, x.isHidden(3));
        check.same("10 a line added later is not hidden by it", false, x.isHidden(x.addLine(0, 7)));
        x.pass(4);
        check.same("10 on the last day", 1, x.lift(1));
        x.addSpan(0, 39, 39, 9);
        check.same("10 no line at all", 0, x.lift(2));
    }

    private static Archivepress withSpans() {
        Archivepress x = Offices.withLines(3);
        x.addSpan(0, 0, 1, 9);
        x.addSpan(0, 0, 1, 3);
        x.addSpan(0, 2, 2, 9);
        x.lift(2);
        return Offices.onDay(x, 4);
    }

    private static void liftWrong() {
        for (int span : FAR) {
            check.fails("10 no such span", NO_SUCH, HidingTest::withSpans, o -> o.lift(span));
        }
        check.fails("10 the span after the last", NO_SUCH, HidingTest::withSpans, o -> o.lift(3));
        check.fails("10 the span 12", NO_SUCH, HidingTest::fullOfSpans, o -> o.lift(12));
        check.fails("10 lifted", STATE, HidingTest::withSpans, o -> o.lift(2));
        check.fails("10 its last day has passed", STATE, HidingTest::withSpans, o -> o.lift(1));
        check.same("10 the span 11", 0, fullOfSpans().lift(11));
    }

    private static void hidden() {
        Archivepress x = Offices.twoDocuments();
        check.same("12 none", 0, x.hidden());
        x.addRule(1, 2, 3);
        check.same("12 by a rule", 2, x.hidden());
        x.addSpan(0, 1, 2, 5);
        check.same("12 by a span, too", 3, x.hidden());
        check.same("11 by neither", false, x.isHidden(0));
        check.same("11 by both", true, x.isHidden(1));
        check.same("11 by the rule", true, x.isHidden(2));
        check.same("11 by the span", true, x.isHidden(3));
        x.pass(4);
        check.same("12 the rule has ended", 2, x.hidden());
        check.same("11 the rule has ended", false, x.isHidden(2));
        check.same("11 by the span still", true, x.isHidden(1));
        x.pass(2);
        check.same("12 all has ended", 0, x.hidden());
        for (int line : FAR) {
            check.fails("11 no such line", NO_SUCH, Offices::twoDocuments, o -> o.isHidden(line));
        }
        check.fails("11 the line after the last", NO_SUCH, Offices::twoDocuments, o -> o.isHidden(4));
        check.fails("11 the line 40", NO_SUCH, () -> Offices.withLines(40), o -> o.isHidden(40));
    }

    private static void addJoin() {
        Archivepress x = Offices.withLines(6);
        Offices.give(x, 0, 0);
        x.addDocument();
        x.addLine(1, 1);
        x.addLine(1, 2);
        x.addLine(1, 3);
        check.same("13 number", 0, x.addJoin(6, 5, 8));
        check.same("13 one of two is not enough", 6, x.held(0));
        check.same("13 number", 1, x.addJoin(7, 3, 6));
        check.same("13 the other of two is not enough", 6, x.held(0));
        x.addRule(0, 9999, 9999);
        check.same("13 number", 2, x.addJoin(4, 1, 7));
        check.same("13 grows at once, and on from there, though hidden", 9, x.held(0));
        check.same("13 holds", true, x.holds(0, 8));
        check.same("13 holdsByLog", true, x.holdsByLog(0, 8));
        check.same("13 nothing was given by this", 6, x.given(0));
        check.same("13 nobody else holds", 1, x.holders(8));
        for (int join = 3; join < 10; join++) {
            check.same("13 number, the same join again", join, x.addJoin(4, 1, 7));
        }
    }

    private static void addJoinWrong() {
        for (int line : new int[] {-1, 4, Integer.MIN_VALUE, Integer.MAX_VALUE}) {
            check.fails("13 no such one", NO_SUCH, Offices::twoDocuments, o -> o.addJoin(line, 1, 2));
            check.fails("13 no such other", NO_SUCH, Offices::twoDocuments, o -> o.addJoin(0, line, 2));
            check.fails("13 no such told", NO_SUCH, Offices::twoDocuments, o -> o.addJoin(0, 1, line));
            check.fails("13 line before same", NO_SUCH, Offices::twoDocuments, o -> o.addJoin(1, 1, line));
            check.fails("13 no such line, twice", NO_SUCH, Offices::twoDocuments, o -> o.addJoin(line, line, 1));
        }
        check.fails("13 one is other", WRONG, Offices::twoDocuments, o -> o.addJoin(1, 1, 2));
        check.fails("13 one is told", WRONG, Offices::twoDocuments, o -> o.addJoin(2, 1, 2));
        check.fails("13 other is told", WRONG, Offices::twoDocuments, o -> o.addJoin(1, 2, 2));
        check.fails("13 all the same", WRONG, Offices::twoDocuments, o -> o.addJoin(2, 2, 2));
        check.fails("13 the eleventh join", STATE, HidingTest::fullOfJoins, o -> o.addJoin(0, 1, 2));
        check.fails("13 line before full", NO_SUCH, HidingTest::fullOfJoins, o -> o.addJoin(0, 1, 6));
        check.fails("13 same before full", WRONG, HidingTest::fullOfJoins, o -> o.addJoin(0, 1, 1));
    }
}
