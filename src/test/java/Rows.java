/** Whole rows of causes, as why, causes and root tell them together. */
final class Rows {
    private Rows() {
    }

    /** The row that is due is written as its reasons, the first one first, or "-". */
    static void rowIs(Check check, String what, String due, Archivepress x, int asker, int line) {
        boolean isFree = due.equals("-");
        String root = isFree ? "throws.java.util.NoSuchElementException" : due.substring(due.length() - 1);
        check.same("why " + what, due.charAt(0), x.why(asker, line));
        check.same("causes " + what, isFree ? 0 : due.length(), x.causes(asker, line));
        check.same("root " + what, root, Check.answerOf(x, o -> o.root(asker, line)));
    }
}
