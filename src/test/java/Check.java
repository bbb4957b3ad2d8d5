/** Counts what is wrong and ends a test: with exit code 1 if anything was. */
final class Check {
    private static int wrong = 0;
    /** What is told ahead of each report: the sentence that is tested. */
    private static String sentence = "";

    private Check() {
    }

    /** One test of one sentence of the document, named by it; nothing that it throws ends the others. */
    static void test(String tested, Runnable body) {
        sentence = tested + ": ";
        try {
            body.run();
        } catch (RuntimeException thrown) {
            report("the test threw " + thrown);
        }
        sentence = "";
    }

    static void same(String what, long due, long got) {
        if (got != due) {
            report(what + " answered " + got + ", due is " + due);
        }
    }

    static void same(String what, boolean due, boolean got) {
        if (got != due) {
            report(what + " answered " + got + ", due is " + due);
        }
    }

    static void same(String what, double due, double got) {
        if (got != due) {
            report(what + " answered " + got + ", due is " + due);
        }
    }

    /** The call must throw just this, and leave all that can be asked as it was. */
    static void refuses(PastureBids sale, Class<? extends RuntimeException> due, String what, Runnable call) {
        long before = sale.digest();
        throwsJust(due, what, call);
        same(what + " changed nothing", before, sale.digest());
    }

    static void throwsJust(Class<? extends RuntimeException> due, String what, Runnable call) {
        try {
            call.run();
        } catch (RuntimeException thrown) {
            if (thrown.getClass() != due) {
                report(what + " threw " + thrown + ", due is " + due.getSimpleName());
            }
            return;
        }
        report(what + " threw nothing, due is " + due.getSimpleName());
    }

    static void report(String text) {
        wrong++;
        System.out.println(sentence + text);
    }

    static void end() {
        if (wrong != 0) {
            System.out.println(wrong + " wrong");
            System.exit(1);
        }
    }
}
