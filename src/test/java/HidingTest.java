/** Promises 8 to 13: rules, spans and joins. */
public final class HidingTest {
    private static final Class<IndexOutOfBoundsException> NO_SUCH = IndexOutOfBoundsException.class;
    private static final Class<IllegalArgumentException> WRONG = IllegalArgumentException.class;
    private static final Class<IllegalStateException> STATE = IllegalStateException.class;

    private static final String WRONG_RULE = "a value is not between 0 and 9999, the second one is less than "
            + "the first one, or the last day is less than today or greater than 9999";
    private static final String WRONG_SPAN = "an index is not between 0 and 39, the second one is less than "
            + "the first one, or the last day is less than today or greater than 9999";

    private static final Check check = Check.ofPromises("HidingTest", 8, 13);

    public static void main(String[] args) {
        addRule();
        ruleDays();
        addRuleReturns();
        addRuleWrongValues();
        addRuleWrongDay();
        addRuleFull();
        addSpan();
        spanDays();
        addSpanReturns();
        addSpanNoDocument();
        addSpanWrongIndexes();
        addSpanWrongDay();
        addSpanFull();
        lift();
        liftReturns();
        liftNoSpan();
        liftLiftedOrEnded();
        isHidden();
        isHiddenReturns();
        isHiddenNoLine();
        hidden();
        hiddenReturns();
        addJoin();
        addJoinForAll();
        addJoinReturns();
        addJoinNoLine();
        addJoinSameLine();
        addJoinFull();
        check.end();
    }

    private static Archivepress dayFive() {
        return Offices.onDay(Offices.twoDocuments(), 5);
    }

    private static Archivepress lastDay() {
        return Offices.onDay(Offices.twoDocuments(), 9999);
    }

    private static void addRule() {
        check.promise(8, "Adds a rule.");
        Archivepress x = Offices.withLines(4);
        for (int i = 0; i < 6; i++) {
            x.addRule(9990 + i, 9990 + i, 9999);
        }
        x.addRule(20, 30, 3);
        check.same("below the first value", false, x.isHidden(0));
        check.same("the first value", true, x.isHidden(1));
        check.same("the second value", true, x.isHidden(2));
        check.same("above the second value", false, x.isHidden(3));
        x.rescan(2, 25);
        check.same("between", true, x.isHidden(2));
        x.rescan(2, 19);
        check.same("one below", false, x.isHidden(2));
        x.rescan(2, 31);
        check.same("one above", false, x.isHidden(2));
        x.addRule(0, 9999, 0);
        check.same("all are hidden", 4, x.hidden());
        x.rescan(0, 0);
        x.rescan(1, 9999);
        check.same("the least and the greatest are hidden", 4, x.hidden());
        check.same("a line added later", true, x.isHidden(x.addLine(0, 1)));
    }

    private static void ruleDays() {
        check.promise(8, "Adds a rule.");
        Archivepress x = Offices.onDay(Offices.withLines(1), 5);
        x.addRule(10, 10, 5);
        check.same("the last day is today", true, x.isHidden(0));
        x.pass(1);
        check.same("a day later", false, x.isHidden(0));
        x.addRule(10, 10, 8);
        x.pass(2);
        check.same("the last day has come", true, x.isHidden(0));
        x.pass(1);
        check.same("the last day has passed", false, x.isHidden(0));
        Offices.onDay(x, 9999);
        x.addRule(10, 10, 9999);
        check.same("on the last day of all", true, x.isHidden(0));
    }

    private static void addRuleReturns() {
        check.promise(8, "Returns the number of the rule.");
        Archivepress x = Offices.fullOfSpans();
        for (int rule = 0; rule < 8; rule++) {
            check.same("addRule", rule, x.addRule(5, 5, 9));
        }
    }

    private static void addRuleWrongValues() {
        check.refusal(8, WRONG, WRONG_RULE);
        for (int value : Offices.outside(9999)) {
            check.refused("first value " + value, HidingTest::dayFive, o -> o.addRule(value, 9999, 5));
            check.refused("second value " + value, HidingTest::dayFive, o -> o.addRule(0, value, 5));
            check.refused("both values " + value, HidingTest::dayFive, o -> o.addRule(value, value, 5));
        }
        check.refused("falling by one", HidingTest::dayFive, o -> o.addRule(5, 4, 5));
        check.refused("falling by all", HidingTest::dayFive, o -> o.addRule(9999, 0, 5));
        check.same("the least values", 0, dayFive().addRule(0, 0, 5));
        check.same("the greatest values", 0, dayFive().addRule(9999, 9999, 5));
        check.same("all values", 0, dayFive().addRule(0, 9999, 5));
        check.same("rising by one", 0, dayFive().addRule(4, 5, 5));
    }

    private static void addRuleWrongDay() {
        check.refusal(8, WRONG, WRONG_RULE);
        check.refused("yesterday", HidingTest::dayFive, o -> o.addRule(1, 1, 4));
        check.refused("the day -1", Offices::twoDocuments, o -> o.addRule(1, 1, -1));
        check.refused("the day 10000", HidingTest::dayFive, o -> o.addRule(1, 1, 10000));
        check.refused("far too early", HidingTest::dayFive, o -> o.addRule(1, 1, Integer.MIN_VALUE));
        check.refused("far too late", HidingTest::dayFive, o -> o.addRule(1, 1, Integer.MAX_VALUE));
        check.refused("the last day but one, on the last one", HidingTest::lastDay, o -> o.addRule(1, 1, 9998));
        check.refused("the day 10000, on the last one", HidingTest::lastDay, o -> o.addRule(1, 1, 10000));
        check.same("today", 0, dayFive().addRule(1, 1, 5));
        check.same("the first day of all", 0, Offices.twoDocuments().addRule(1, 1, 0));
        check.same("the last day of all", 0, dayFive().addRule(1, 1, 9999));
        check.same("the last day of all, on this day", 0, lastDay().addRule(1, 1, 9999));
    }

    private static void addRuleFull() {
        check.refusal(8, STATE, "there are 8 rules");
        Archivepress x = Offices.withLines(3);
        for (int rule = 0; rule < 7; rule++) {
            x.addRule(5, 5, 0);
        }
        check.same("the last one that goes in", 7, x.addRule(20, 20, 0));
        check.same("hides", true, x.isHidden(1));
        check.refused("the ninth", Offices::fullOfRules, o -> o.addRule(0, 9999, 9999));
        check.refused("the ninth, though all have ended", () -> Offices.onDay(Offices.fullOfRules(), 50),
                o -> o.addRule(0, 9999, 9999));
    }

    private static void addSpan() {
        check.promise(9, "Adds a span.");
        Archivepress x = Offices.withDocuments(2);
        for (int line = 0; line < 10; line++) {
            x.addLine(line % 2, 7);
        }
        x.addSpan(1, 1, 2, 9);
        boolean[] due = {false, false, false, true, false, true, false, false, false, false};
        for (int line = 0; line < 10; line++) {
            check.same("isHidden " + line, due[line], x.isHidden(line));
        }
        x.addSpan(0, 5, 39, 9);
        check.same("hides no line yet", 2, x.hidden());
        check.same("a line added later", true, x.isHidden(x.addLine(0, 7)));
        check.same("in the other document", false, x.isHidden(x.addLine(1, 7)));
        x.addSpan(0, 0, 0, 9);
        check.same("the line with the least index", true, x.isHidden(0));
        check.same("the line behind it", false, x.isHidden(2));
        x.rescan(0, 8);
        check.same("scanned anew, hidden still", true, x.isHidden(0));
        Archivepress full = Offices.fullOfLines();
        full.addSpan(0, 39, 39, 0);
        check.same("the greatest index", true, full.isHidden(39));
        check.same("that one alone", 1, full.hidden());
        full.addSpan(0, 0, 39, 0);
        check.same("all indexes", 40, full.hidden());
        Archivepress last = Offices.full();
        check.same("of the last document", true, last.isHidden(39));
    }

    private static void spanDays() {
        check.promise(9, "Adds a span.");
        Archivepress x = Offices.onDay(Offices.withLines(1), 5);
        x.addSpan(0, 0, 0, 5);
        check.same("the last day is today", true, x.isHidden(0));
        x.pass(1);
        check.same("a day later", false, x.isHidden(0));
        x.addSpan(0, 0, 0, 8);
        x.pass(2);
        check.same("the last day has come", true, x.isHidden(0));
        x.pass(1);
        check.same("the last day has passed", false, x.isHidden(0));
        Offices.onDay(x, 9999);
        x.addSpan(0, 0, 0, 9999);
        check.same("on the last day of all", true, x.isHidden(0));
    }

    private static void addSpanReturns() {
        check.promise(9, "Returns the number of the span.");
        Archivepress x = Offices.fullOfRules();
        for (int span = 0; span < 12; span++) {
            check.same("addSpan", span, x.addSpan(0, span, 39, 9));
        }
    }

    private static void addSpanNoDocument() {
        check.refusal(9, NO_SUCH, "there is no such document");
        for (int document : Offices.beyond(2)) {
            check.refused("of two, " + document, HidingTest::dayFive, o -> o.addSpan(document, 0, 1, 9));
        }
        for (int document : Offices.beyond(8)) {
            check.refused("of eight, " + document, Offices::fullOfDocuments, o -> o.addSpan(document, 0, 1, 9));
        }
        check.refused("no document at all", Offices::empty, o -> o.addSpan(0, 0, 1, 9));
        check.same("the first document", 0, dayFive().addSpan(0, 0, 1, 9));
        check.same("the last document", 0, dayFive().addSpan(1, 0, 1, 9));
        check.same("the last of eight, without lines", 0, Offices.fullOfDocuments().addSpan(7, 0, 1, 9));
    }

    private static void addSpanWrongIndexes() {
        check.refusal(9, WRONG, WRONG_SPAN);
        for (int index : Offices.outside(39)) {
            check.refused("first index " + index, HidingTest::dayFive, o -> o.addSpan(0, index, 39, 9));
            check.refused("second index " + index, HidingTest::dayFive, o -> o.addSpan(0, 0, index, 9));
            check.refused("both indexes " + index, HidingTest::dayFive, o -> o.addSpan(0, index, index, 9));
        }
        check.refused("falling by one", HidingTest::dayFive, o -> o.addSpan(0, 2, 1, 9));
        check.refused("falling by all", HidingTest::dayFive, o -> o.addSpan(0, 39, 0, 9));
        check.same("the least indexes", 0, dayFive().addSpan(0, 0, 0, 9));
        check.same("the greatest indexes", 0, dayFive().addSpan(0, 39, 39, 9));
        check.same("all indexes", 0, dayFive().addSpan(0, 0, 39, 9));
        check.same("rising by one", 0, dayFive().addSpan(0, 1, 2, 9));
    }

    private static void addSpanWrongDay() {
        check.refusal(9, WRONG, WRONG_SPAN);
        check.refused("yesterday", HidingTest::dayFive, o -> o.addSpan(0, 0, 1, 4));
        check.refused("the day -1", Offices::twoDocuments, o -> o.addSpan(0, 0, 1, -1));
        check.refused("the day 10000", HidingTest::dayFive, o -> o.addSpan(0, 0, 1, 10000));
        check.refused("far too early", HidingTest::dayFive, o -> o.addSpan(0, 0, 1, Integer.MIN_VALUE));
        check.refused("far too late", HidingTest::dayFive, o -> o.addSpan(0, 0, 1, Integer.MAX_VALUE));
        check.refused("the last day but one, on the last one", HidingTest::lastDay, o -> o.addSpan(0, 0, 1, 9998));
        check.refused("the day 10000, on the last one", HidingTest::lastDay, o -> o.addSpan(0, 0, 1, 10000));
        check.same("today", 0, dayFive().addSpan(0, 0, 1, 5));
        check.same("the first day of all", 0, Offices.twoDocuments().addSpan(0, 0, 1, 0));
        check.same("the last day of all", 0, dayFive().addSpan(0, 0, 1, 9999));
        check.same("the last day of all, on this day", 0, lastDay().addSpan(0, 0, 1, 9999));
    }

    private static Archivepress fullOfLiftedSpans() {
        Archivepress x = Offices.fullOfSpans();
        for (int span = 0; span < 12; span++) {
            x.lift(span);
        }
        return x;
    }

    private static void addSpanFull() {
        check.refusal(9, STATE, "there are 12 spans");
        Archivepress x = Offices.withLines(3);
        for (int span = 0; span < 11; span++) {
            x.addSpan(0, 5, 5, 0);
        }
        check.same("the last one that goes in", 11, x.addSpan(0, 1, 1, 0));
        check.same("hides", true, x.isHidden(1));
        check.refused("the thirteenth", Offices::fullOfSpans, o -> o.addSpan(0, 0, 1, 99));
        check.refused("the thirteenth, though all are lifted", HidingTest::fullOfLiftedSpans,
                o -> o.addSpan(0, 0, 1, 99));
        check.refused("the thirteenth, though all have ended", () -> Offices.onDay(Offices.fullOfSpans(), 50),
                o -> o.addSpan(0, 0, 1, 99));
    }

    private static void lift() {
        check.promise(10, "Lifts a span.");
        Archivepress x = Offices.withLines(5);
        x.addSpan(0, 0, 3, 9);
        x.addSpan(0, 2, 2, 4);
        x.addRule(10, 10, 4);
        x.lift(0);
        check.same("hidden by the rule", true, x.isHidden(0));
        check.same("not hidden any more", false, x.isHidden(1));
        check.same("hidden by the other span", true, x.isHidden(2));
        check.same("not hidden any more", false, x.isHidden(3));
        x.addSpan(0, 4, 8, 9);
        x.lift(2);
        check.same("a line added later is not hidden by it", false, x.isHidden(x.addLine(0, 7)));
        x.pass(4);
        check.same("the other span goes on up to its last day", true, x.isHidden(2));
        x.addSpan(0, 0, 3, 9);
        check.same("the same span again is another one", true, x.isHidden(3));
    }

    private static void liftReturns() {
        check.promise(10, "Returns how many lines are not hidden any more by this.");
        Archivepress x = Offices.withLines(5);
        x.addSpan(0, 0, 3, 9);
        x.addSpan(0, 2, 2, 9);
        x.addRule(10, 10, 9);
        check.same("less what a rule and a span hide still", 2, x.lift(0));
        check.same("one line", 1, x.lift(1));
        x.addSpan(0, 39, 39, 9);
        check.same("no line at all", 0, x.lift(2));
        x.addSpan(0, 0, 0, 9);
        check.same("none that is not hidden by a rule", 0, x.lift(3));
        Archivepress full = Offices.fullOfLines();
        full.addSpan(0, 0, 39, 9);
        check.same("all lines", 40, full.lift(0));
        Archivepress ended = Offices.withLines(5);
        ended.addSpan(0, 0, 1, 9);
        ended.addSpan(0, 1, 1, 3);
        ended.pass(4);
        check.same("with a span that has ended", 2, ended.lift(0));
    }

    private static Archivepress withSpans() {
        Archivepress x = Offices.withLines(3);
        x.addSpan(0, 0, 1, 9);
        x.addSpan(0, 0, 1, 3);
        x.addSpan(0, 2, 2, 9);
        x.lift(2);
        return Offices.onDay(x, 4);
    }

    private static void liftNoSpan() {
        check.refusal(10, NO_SUCH, "there is no such span");
        for (int span : Offices.beyond(3)) {
            check.refused("of three, " + span, HidingTest::withSpans, o -> o.lift(span));
        }
        for (int span : Offices.beyond(12)) {
            check.refused("of twelve, " + span, Offices::fullOfSpans, o -> o.lift(span));
        }
        check.refused("no span at all", Offices::fullOfRules, o -> o.lift(0));
        check.same("the first span", 2, withSpans().lift(0));
        check.same("the last span", 0, Offices.fullOfSpans().lift(11));
    }

    private static void liftLiftedOrEnded() {
        check.refusal(10, STATE, "it was lifted, or its last day has passed");
        check.refused("lifted", HidingTest::withSpans, o -> o.lift(2));
        check.refused("lifted, and its last day has passed", () -> Offices.onDay(withSpans(), 10), o -> o.lift(2));
        check.refused("its last day was yesterday", HidingTest::withSpans, o -> o.lift(1));
        check.refused("its last day has passed for long", () -> Offices.onDay(withSpans(), 9999), o -> o.lift(0));
        check.same("on its last day", 2, Offices.onDay(withSpans(), 9).lift(0));
        Archivepress first = Offices.withLines(3);
        first.addSpan(0, 0, 1, 0);
        check.same("on the first day of all, its last one", 2, first.lift(0));
        check.same("and not twice", "throws.java.lang.IllegalStateException",
                Check.answerOf(first, o -> o.lift(0)));
        Archivepress last = lastDay();
        last.addSpan(0, 0, 1, 9999);
        check.same("on the last day of all", 2, last.lift(0));
    }

    private static void isHidden() {
        check.promise(11, "Tells whether a line is hidden.");
        Archivepress x = Offices.twoDocuments();
        check.same("with no rule and no span", false, x.isHidden(0));
        x.addRule(1, 2, 3);
        x.addSpan(0, 1, 2, 5);
        check.same("by neither", false, x.isHidden(0));
        check.same("by both", true, x.isHidden(1));
        check.same("by the rule", true, x.isHidden(2));
        check.same("by the span", true, x.isHidden(3));
        x.pass(4);
        check.same("the rule has ended", false, x.isHidden(2));
        check.same("by the span still", true, x.isHidden(1));
        x.lift(0);
        check.same("the span is lifted", false, x.isHidden(1));
        Archivepress join = Offices.withKey();
        join.addJoin(0, 5, 1);
        join.addRule(20, 20, 9);
        check.same("withheld for a join, not hidden", false, join.isHidden(0));
    }

    private static void isHiddenReturns() {
        check.promise(11, "Returns true if so.");
        Archivepress x = Offices.fullOfLines();
        x.addRule(10, 10, 9);
        x.addSpan(0, 39, 39, 9);
        for (int line = 0; line < 40; line++) {
            check.same("isHidden " + line, line == 0 || line == 39, x.isHidden(line));
        }
    }

    private static void isHiddenNoLine() {
        check.refusal(11, NO_SUCH, "there is no such line");
        for (int line : Offices.beyond(4)) {
            check.refused("of four, " + line, Offices::twoDocuments, o -> o.isHidden(line));
        }
        for (int line : Offices.beyond(40)) {
            check.refused("of forty, " + line, Offices::fullOfLines, o -> o.isHidden(line));
        }
        check.refused("no line at all", Offices::fullOfDocuments, o -> o.isHidden(0));
    }

    private static void hidden() {
        check.promise(12, "Returns the number of lines that are hidden.");
        Archivepress x = Offices.twoDocuments();
        check.same("none", 0, x.hidden());
        x.addRule(1, 2, 3);
        check.same("by a rule", 2, x.hidden());
        x.addSpan(0, 1, 2, 5);
        check.same("by a span, too", 3, x.hidden());
        x.pass(4);
        check.same("the rule has ended", 2, x.hidden());
        x.pass(2);
        check.same("all has ended", 0, x.hidden());
    }

    private static void hiddenReturns() {
        check.promise(12, "Returns the number of lines.");
        Archivepress none = new Archivepress();
        none.addRule(0, 9999, 9);
        check.same("no line at all", 0, none.hidden());
        Archivepress x = Offices.fullOfLines();
        x.addRule(0, 9999, 9);
        check.same("all lines", 40, x.hidden());
        x.addSpan(0, 0, 39, 9);
        check.same("each one counts once", 40, x.hidden());
        check.same("in all documents", 8, Offices.full().hidden());
    }

    private static void addJoin() {
        check.promise(13, "Adds a join; what askers hold grows by it at once.");
        Archivepress x = Offices.withLines(6);
        Offices.give(x, 0, 0);
        x.addDocument();
        x.addLine(1, 1);
        x.addLine(1, 2);
        x.addLine(1, 3);
        x.addJoin(6, 5, 8);
        check.same("one of two is not enough", 6, x.held(0));
        x.addJoin(7, 3, 6);
        check.same("the other of two is not enough", 6, x.held(0));
        x.addRule(0, 9999, 9999);
        x.addJoin(4, 1, 7);
        check.same("grows at once, and on from there, though hidden", 9, x.held(0));
        check.same("holds", true, x.holds(0, 8));
        check.same("holdsByLog", true, x.holdsByLog(0, 8));
        check.same("nothing was given by this", 6, x.given(0));
        check.same("nothing is owed for this", 30, x.owed(0));
        check.same("nobody else holds", 1, x.holders(8));
    }

    private static void addJoinForAll() {
        check.promise(13, "Adds a join; what askers hold grows by it at once.");
        Archivepress all = Offices.withLines(2);
        all.addDocument();
        all.addLine(1, 1);
        for (int asker = 0; asker < 5; asker++) {
            Offices.give(all, asker, 0);
        }
        all.addJoin(1, 0, 2);
        check.same("for all who hold both", 5, all.holders(2));
        for (int asker = 0; asker < 5; asker++) {
            Archivepress x = Offices.withLines(2);
            x.addDocument();
            x.addLine(1, 1);
            Offices.give(x, asker, 0);
            x.addJoin(1, 0, 2);
            check.same("for asker " + asker, true, x.holds(asker, 2));
            check.same("and for nobody else", 1, x.holders(2));
        }
        Archivepress none = Offices.withLines(3);
        none.addJoin(0, 1, 2);
        check.same("for nobody who holds nothing", 0, none.holders(2));
    }

    private static void addJoinReturns() {
        check.promise(13, "Returns the number of the join.");
        Archivepress x = Offices.withLines(12);
        for (int join = 0; join < 10; join++) {
            check.same("addJoin", join, x.addJoin(join, join + 1, join + 2));
        }
        Archivepress same = Offices.withLines(3);
        for (int join = 0; join < 10; join++) {
            check.same("the same join again", join, same.addJoin(0, 1, 2));
        }
    }

    private static void addJoinNoLine() {
        check.refusal(13, NO_SUCH, "there is no such line, for any of them");
        for (int line : Offices.beyond(4)) {
            check.refused("one " + line, Offices::twoDocuments, o -> o.addJoin(line, 1, 2));
            check.refused("other " + line, Offices::twoDocuments, o -> o.addJoin(0, line, 2));
            check.refused("told " + line, Offices::twoDocuments, o -> o.addJoin(0, 1, line));
            check.refused("all " + line, Offices::twoDocuments, o -> o.addJoin(line, line, line));
        }
        check.refused("the line 40", Offices::fullOfLines, o -> o.addJoin(38, 39, 40));
        check.refused("no line at all", Offices::fullOfDocuments, o -> o.addJoin(0, 1, 2));
        check.refused("two lines alone", () -> Offices.withLines(2), o -> o.addJoin(0, 1, 2));
        check.same("the least lines", 0, Offices.withLines(3).addJoin(0, 1, 2));
        check.same("the greatest lines", 0, Offices.fullOfLines().addJoin(39, 38, 37));
    }

    private static void addJoinSameLine() {
        check.refusal(13, WRONG, "two of them are the same");
        check.refused("one is other", Offices::twoDocuments, o -> o.addJoin(1, 1, 2));
        check.refused("one is told", Offices::twoDocuments, o -> o.addJoin(2, 1, 2));
        check.refused("other is told", Offices::twoDocuments, o -> o.addJoin(1, 2, 2));
        check.refused("all the same", Offices::twoDocuments, o -> o.addJoin(2, 2, 2));
        check.refused("all the first", Offices::twoDocuments, o -> o.addJoin(0, 0, 0));
    }

    private static void addJoinFull() {
        check.refusal(13, STATE, "there are 10 joins");
        Archivepress x = Offices.withLines(2);
        x.addDocument();
        x.addLine(1, 1);
        Offices.give(x, 0, 0);
        for (int join = 0; join < 9; join++) {
            x.addJoin(2, 0, 1);
        }
        check.same("the last one that goes in", 9, x.addJoin(0, 1, 2));
        check.same("tells", true, x.holds(0, 2));
        check.refused("the eleventh", Offices::fullOfJoins, o -> o.addJoin(0, 1, 2));
        check.refused("the eleventh, the same again", Offices::fullOfJoins, o -> o.addJoin(3, 4, 5));
    }
}
