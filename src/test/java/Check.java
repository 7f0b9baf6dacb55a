import java.util.function.Supplier;

/** Counts the answers of one test program that are due and those that are not. */
final class Check {
    /** One call on an office. */
    interface Call {
        Object on(Archivepress office);
    }

    private final String test;
    private int passed;
    private int failed;

    Check(String test) {
        this.test = test;
    }

    void same(String what, Object due, Object got) {
        if (due.equals(got)) {
            passed++;
            return;
        }
        failed++;
        System.out.println(test + ": " + what + " answered " + got + ", due is " + due);
    }

    /** The call throws just this exception, not a class below it, and leaves the office as it was. */
    void fails(String what, Class<? extends RuntimeException> due, Supplier<Archivepress> made, Call call) {
        Archivepress office = made.get();
        same(what, "throws." + due.getName(), answerOf(office, call));
        same(what + " changes nothing", Picture.of(made.get()), Picture.of(office));
    }

    static String answerOf(Archivepress office, Call call) {
        try {
            return String.valueOf(call.on(office));
        } catch (RuntimeException e) {
            return "throws." + e.getClass().getName();
        }
    }

    void end() {
        System.out.println(test + ": " + passed + " answers as due, " + failed + " not");
        if (failed != 0 || passed == 0) {
            System.exit(1);
        }
    }
}
