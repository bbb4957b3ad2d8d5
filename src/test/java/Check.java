/** Counts what is wrong and ends a test: with exit code 1 if anything was. */
final class Check {
    private static int wrong = 0;

    private Check() {
    }

    static void same(String what, long due, long got) {
        if (got != due) {
            report(what + " answered " + got + ", due is " + due);
        }
    }

    static void same(String what, boolean due, boolean got) {
        if (got != due) {
            report(what + " answered " + got + ", due is " + due);
        }
    }

    static void same(String what, double due, double got) {
        if (got != due) {
            report(what + " answered " + got + ", due is " + due);
        }
    }

    /** The call must throw just this, and leave all that can be asked as it was. */
    static void refuses(PastureBids sale, Class<? extends RuntimeException> due, String what, Runnable call) {
        long before = sale.digest();
        try {
            call.run();
            report(what + " threw nothing, due is " + due.getSimpleName());
        } catch (RuntimeException thrown) {
            if (thrown.getClass() != due) {
                report(what + " threw " + thrown + ", due is " + due.getSimpleName());
            }
        }
        same(what + " changed nothing", before, sale.digest());
    }

    static void report(String text) {
        wrong++;
        System.out.println(text);
    }

    static void end() {
        if (wrong != 0) {
            System.out.println(wrong + " wrong");
            System.exit(1);
        }
    }
}
