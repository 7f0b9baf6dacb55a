import java.util.NoSuchElementException;

/** Promises 14 to 21: what askers hold, and why they are not given a line. */
public final class AskersTest {
    private static final Class<IndexOutOfBoundsException> NO_SUCH = IndexOutOfBoundsException.class;
    private static final Class<IllegalArgumentException> WRONG = IllegalArgumentException.class;
    private static final Class<IllegalStateException> STATE = IllegalStateException.class;
    private static final Class<NoSuchElementException> NONE = NoSuchElementException.class;

    private static final Check check = Check.ofPromises("AskersTest", 14, 21);

    public static void main(String[] args) {
        holds();
        holdsReturns();
        holdsByLog();
        holdsByLogReturns();
        held();
        heldReturns();
        given();
        givenReturns();
        holders();
        holdersReturns();
        why();
        whyReturns();
        root();
        rootReturns();
        rootNotWithheld();
        causes();
        causesReturns();
        noAsker();
        noLine();
        lineIsHeld();
        check.end();
    }

    /** Asker 4 holds the lines 0, 1 and 3, which are document 0, asker 0 line 2, and the others nothing. */
    private static Archivepress shared() {
        Archivepress x = Offices.twoDocuments();
        Offices.give(x, 4, 0);
        Offices.give(x, 0, 1);
        return x;
    }

    /** Asker 1 was given the lines 0 and 1, which tell line 2; since then all is hidden. */
    private static Archivepress toldAndHidden() {
        Archivepress x = Offices.withLines(3);
        x.addJoin(0, 1, 2);
        Offices.give(x, 1, 0);
        x.addRule(0, 9999, 9999);
        x.addSpan(0, 0, 39, 9999);
        return x;
    }

    /** Asker 0 was given the lines 0 and 1, and ten joins, the last link first, tell ten more. */
    private static Archivepress chain() {
        Archivepress x = Offices.withLines(2);
        x.addDocument();
        for (int line = 2; line < 12; line++) {
            x.addLine(1, 5000);
        }
        for (int first = 9; first >= 0; first--) {
            x.addJoin(first, first + 1, first + 2);
        }
        Offices.give(x, 0, 0);
        return x;
    }

    private static Archivepress allLinesGiven() {
        Archivepress x = Offices.fullOfLines();
        for (int asker = 0; asker < 5; asker++) {
            Offices.give(x, asker, 0);
        }
        return x;
    }

    private static void holds() {
        check.promise(14, "Tells whether an asker holds a line, as it is kept.");
        check.same("before", false, Offices.twoDocuments().holds(4, 0));
        check.same("what was given", true, toldAndHidden().holds(1, 0));
        check.same("what is told", true, toldAndHidden().holds(1, 2));
        Archivepress x = chain();
        for (int line = 0; line < 12; line++) {
            check.same("of a chain, line " + line, true, x.holds(0, line));
        }
        Archivepress asked = Offices.twoDocuments();
        asked.request(0, 0);
        check.same("by a request that waits", false, asked.holds(0, 0));
        asked.withdraw(0);
        check.same("by a withdrawn request", false, asked.holds(0, 0));
    }

    private static void holdsReturns() {
        check.promise(14, "Returns true if so.");
        Archivepress x = shared();
        for (int line = 0; line < 4; line++) {
            check.same("asker 4, line " + line, line != 2, x.holds(4, line));
            check.same("asker 0, line " + line, line == 2, x.holds(0, line));
            check.same("asker 1, line " + line, false, x.holds(1, line));
        }
        check.same("the last line", true, allLinesGiven().holds(4, 39));
    }

    private static void holdsByLog() {
        check.promise(15, "Tells the same, found from the log of all that was given.");
        check.same("before", false, Offices.twoDocuments().holdsByLog(4, 0));
        check.same("what was given", true, toldAndHidden().holdsByLog(1, 0));
        check.same("what is told", true, toldAndHidden().holdsByLog(1, 2));
        Archivepress x = chain();
        for (int line = 0; line < 12; line++) {
            check.same("of a chain, line " + line, true, x.holdsByLog(0, line));
        }
        x.rescan(0, 5000);
        check.same("scanned anew", true, x.holdsByLog(0, 0));
        Archivepress full = allLinesGiven();
        for (int asker = 0; asker < 5; asker++) {
            for (int line = 0; line < 40; line++) {
                check.same("of the longest log, line " + line, true, full.holdsByLog(asker, line));
            }
        }
    }

    private static void holdsByLogReturns() {
        check.promise(15, "Returns true if so.");
        Archivepress x = shared();
        for (int line = 0; line < 4; line++) {
            check.same("asker 4, line " + line, line != 2, x.holdsByLog(4, line));
            check.same("asker 0, line " + line, line == 2, x.holdsByLog(0, line));
            check.same("asker 1, line " + line, false, x.holdsByLog(1, line));
        }
    }

    private static void held() {
        check.promise(16, "Returns how many lines an asker holds.");
        Archivepress x = shared();
        check.same("three", 3, x.held(4));
        check.same("one", 1, x.held(0));
        check.same("none", 0, x.held(1));
        check.same("two given, three held, whatever is hidden later", 3, toldAndHidden().held(1));
        check.same("two given, twelve held", 12, chain().held(0));
    }

    private static void heldReturns() {
        check.promise(16, "Returns the number of lines.");
        for (int asker = 0; asker < 5; asker++) {
            check.same("of an office without lines", 0, new Archivepress().held(asker));
            check.same("all lines", 40, allLinesGiven().held(asker));
        }
    }

    private static void given() {
        check.promise(17, "Returns how many lines were given to an asker.");
        Archivepress x = shared();
        check.same("three", 3, x.given(4));
        check.same("one", 1, x.given(0));
        check.same("none", 0, x.given(1));
        Offices.give(x, 4, 1);
        check.same("one more", 4, x.given(4));
        Offices.give(x, 4, 0);
        check.same("nothing twice", 4, x.given(4));
        check.same("two given, three held", 2, toldAndHidden().given(1));
        check.same("two given, twelve held", 2, chain().given(0));
    }

    private static void givenReturns() {
        check.promise(17, "Returns the number of lines.");
        for (int asker = 0; asker < 5; asker++) {
            check.same("of an office without lines", 0, new Archivepress().given(asker));
            check.same("all lines", 40, allLinesGiven().given(asker));
        }
    }

    private static void holders() {
        check.promise(18, "Returns how many askers hold a line.");
        Archivepress x = shared();
        for (int line = 0; line < 4; line++) {
            check.same("one asker each", 1, x.holders(line));
        }
        for (int asker = 0; asker < 4; asker++) {
            Offices.give(x, asker, 0);
            check.same("one more", asker + 2, x.holders(0));
        }
        check.same("one asker still", 1, x.holders(2));
        check.same("of a line that is told, and hidden later", 1, toldAndHidden().holders(2));
    }

    private static void holdersReturns() {
        check.promise(18, "Returns the number of askers.");
        Archivepress x = allLinesGiven();
        for (int line = 0; line < 40; line++) {
            check.same("all askers", 5, x.holders(line));
            check.same("no asker", 0, Offices.fullOfLines().holders(line));
        }
    }

    private static void why() {
        check.promise(19, "Returns the first reason for which a line is withheld from an asker.");
        Archivepress x = Offices.withLines(4);
        x.addDocument();
        x.addLine(1, 5000);
        x.addJoin(0, 4, 1);
        x.addJoin(1, 2, 3);
        Offices.give(x, 0, 1);
        check.same("with nothing hidden", '-', x.why(0, 0));
        x.addSpan(0, 1, 1, 9);
        check.same("of a join that tells a span's line", 'j', x.why(0, 0));
        check.same("for one who holds neither", '-', x.why(1, 0));
        x.addRule(20, 20, 9);
        check.same("of a line hidden by both", 'r', x.why(0, 1));
        x.lift(0);
        check.same("of a join that tells a rule's line", 'j', x.why(0, 0));
        check.same("of a rule's line", 'r', x.why(0, 1));
        x.rescan(1, 21);
        check.same("of a line scanned anew", '-', x.why(0, 0));
        x.addRule(10, 10, 9);
        x.addRule(21, 21, 9);
        check.same("if a rule hides it, not for the join", 'r', x.why(0, 0));
        Archivepress one = Offices.withLines(4);
        one.addJoin(0, 1, 2);
        one.addRule(20, 30, 9);
        check.same("of a hidden line that would tell another one", 'r', one.why(0, 1));
    }

    private static void whyReturns() {
        check.promise(19, "Returns 'r', 's' or 'j', or '-' if it is not withheld.");
        Archivepress x = Offices.withKey();
        x.addRule(20, 30, 9);
        x.addSpan(0, 2, 3, 9);
        x.addJoin(0, 5, 1);
        check.same("for a join", 'j', x.why(0, 0));
        check.same("by a rule", 'r', x.why(0, 1));
        check.same("by both", 'r', x.why(0, 2));
        check.same("by a span", 's', x.why(0, 3));
        check.same("not withheld", '-', x.why(0, 4));
        check.same("the last line, not withheld", '-', Offices.fullOfLines().why(4, 39));
        check.same("a held line, for another asker", 'r', toldAndHidden().why(2, 2));
    }

    private static void root() {
        check.promise(20, "Returns the root of the reasons for which a line is withheld from an asker.");
        Archivepress x = Offices.withKey();
        x.addJoin(0, 5, 2);
        x.addJoin(0, 5, 1);
        x.addRule(20, 20, 9);
        check.same("of a rule", 'r', x.root(0, 1));
        check.same("of a join and a rule", 'r', x.root(0, 0));
        x.addSpan(0, 2, 2, 9);
        check.same("the lower line's rule", 'r', x.root(0, 0));
        x.addSpan(0, 1, 1, 9);
        check.same("of a join, a rule and a span", 's', x.root(0, 0));
        check.same("of a rule and a span", 's', x.root(0, 1));
        check.same("of a span", 's', x.root(0, 2));
    }

    private static void rootReturns() {
        check.promise(20, "Returns 'r' or 's'.");
        Archivepress x = Offices.twoDocuments();
        x.addRule(1, 2, 9);
        x.addSpan(0, 1, 2, 5);
        check.same("of both", 's', x.root(0, 1));
        check.same("of a rule", 'r', x.root(0, 2));
        check.same("of a span", 's', x.root(0, 3));
        x.pass(5);
        check.same("of both, on the span's last day", 's', x.root(0, 1));
        x.pass(1);
        check.same("of both, a day later", 'r', x.root(0, 1));
    }

    private static Archivepress freeForWantOfTheKey() {
        Archivepress x = Offices.withKey();
        x.addJoin(0, 5, 1);
        x.addRule(20, 20, 9);
        return x;
    }

    private static void rootNotWithheld() {
        check.refusal(20, NONE, "it is not withheld");
        check.refused("with nothing hidden", Offices::twoDocuments, o -> o.root(0, 0));
        check.refused("for one who does not hold the other line", AskersTest::freeForWantOfTheKey, o -> o.root(1, 0));
        check.same("for one who does", 'r', freeForWantOfTheKey().root(0, 0));
        check.same("on the rule's last day", 'r', Offices.onDay(freeForWantOfTheKey(), 9).root(0, 0));
        check.refused("a day later", () -> Offices.onDay(freeForWantOfTheKey(), 10), o -> o.root(0, 0));
    }

    private static void causes() {
        check.promise(21, "Returns how many reasons, the first one included, are in the row of causes for which a "
                + "line is withheld from an asker.");
        Archivepress x = Offices.withKey();
        x.addJoin(0, 5, 1);
        x.addJoin(0, 5, 2);
        x.addRule(30, 30, 9);
        check.same("by a rule", 1, x.causes(0, 2));
        check.same("for a join, by a rule", 2, x.causes(0, 0));
        x.addSpan(0, 2, 2, 9);
        check.same("by both", 2, x.causes(0, 2));
        check.same("for a join, by both", 3, x.causes(0, 0));
        x.addSpan(0, 1, 1, 9);
        check.same("for a join, by the span of the lowest line alone", 2, x.causes(0, 0));
        check.same("by a span", 1, x.causes(0, 1));
        x.addSpan(0, 1, 2, 9);
        check.same("two spans are one reason", 1, x.causes(0, 1));
        x.addRule(29, 31, 9);
        check.same("two rules and two spans are two", 2, x.causes(0, 2));
    }

    private static void causesReturns() {
        check.promise(21, "Returns the number of reasons, 0 if it is not withheld.");
        Archivepress x = Offices.withLines(1);
        check.same("not withheld", 0, x.causes(0, 0));
        x.addRule(10, 10, 5);
        check.same("by a rule", 1, x.causes(0, 0));
        x.addSpan(0, 0, 0, 3);
        check.same("by both", 2, x.causes(0, 0));
        x.pass(4);
        check.same("by a rule", 1, x.causes(0, 0));
        x.pass(2);
        check.same("not withheld any more", 0, x.causes(0, 0));
        check.same("the last line, not withheld", 0, Offices.fullOfLines().causes(4, 39));
    }

    private static void noAskerFor(int promise, Check.Call below, Check.Call above, Check.Call least,
            Check.Call greatest) {
        check.refusal(promise, WRONG, "there is no such asker");
        check.refused("-1", AskersTest::shared, below);
        check.refused("5", AskersTest::shared, above);
        check.refused("the least number", AskersTest::shared, least);
        check.refused("the greatest number", AskersTest::shared, greatest);
    }

    private static void noAsker() {
        int least = Integer.MIN_VALUE;
        int greatest = Integer.MAX_VALUE;
        noAskerFor(14, o -> o.holds(-1, 0), o -> o.holds(5, 0), o -> o.holds(least, 0), o -> o.holds(greatest, 0));
        noAskerFor(15, o -> o.holdsByLog(-1, 0), o -> o.holdsByLog(5, 0), o -> o.holdsByLog(least, 0),
                o -> o.holdsByLog(greatest, 0));
        noAskerFor(16, o -> o.held(-1), o -> o.held(5), o -> o.held(least), o -> o.held(greatest));
        noAskerFor(17, o -> o.given(-1), o -> o.given(5), o -> o.given(least), o -> o.given(greatest));
        noAskerFor(19, o -> o.why(-1, 2), o -> o.why(5, 2), o -> o.why(least, 2), o -> o.why(greatest, 2));
        noAskerFor(20, o -> o.root(-1, 2), o -> o.root(5, 2), o -> o.root(least, 2), o -> o.root(greatest, 2));
        noAskerFor(21, o -> o.causes(-1, 2), o -> o.causes(5, 2), o -> o.causes(least, 2),
                o -> o.causes(greatest, 2));
    }

    /** A call with the number of a line. */
    private interface LineCall {
        Object on(Archivepress office, int line);
    }

    private static void noLineFor(int promise, LineCall call) {
        check.refusal(promise, NO_SUCH, "there is no such line");
        for (int line : Offices.beyond(4)) {
            check.refused("of four, " + line, Offices::twoDocuments, o -> call.on(o, line));
        }
        for (int line : Offices.beyond(40)) {
            check.refused("of forty, " + line, Offices::fullOfLines, o -> call.on(o, line));
        }
        check.refused("no line at all", Offices::fullOfDocuments, o -> call.on(o, 0));
    }

    private static void noLine() {
        noLineFor(14, (o, line) -> o.holds(4, line));
        noLineFor(15, (o, line) -> o.holdsByLog(4, line));
        noLineFor(18, (o, line) -> o.holders(line));
        noLineFor(19, (o, line) -> o.why(0, line));
        noLineFor(20, (o, line) -> o.root(0, line));
        noLineFor(21, (o, line) -> o.causes(0, line));
    }

    private static void lineIsHeldFor(int promise, LineCall callOfAskerOne) {
        check.refusal(promise, STATE, "the asker holds it");
        check.refused("given, and hidden since", AskersTest::toldAndHidden, o -> callOfAskerOne.on(o, 0));
        check.refused("told, and hidden since", AskersTest::toldAndHidden, o -> callOfAskerOne.on(o, 2));
        check.refused("the last line", AskersTest::allLinesGiven, o -> callOfAskerOne.on(o, 39));
    }

    private static void lineIsHeld() {
        lineIsHeldFor(19, (o, line) -> o.why(1, line));
        lineIsHeldFor(20, (o, line) -> o.root(1, line));
        lineIsHeldFor(21, (o, line) -> o.causes(1, line));
    }
}
