/** Compares answers with those that are due, and ends a test with exit code 1 if one was wrong. */
final class Check {
    interface Call {
        void make();
    }

    private static int wrong = 0;

    private Check() {
    }

    static void due(String call, long got, long want) {
        if (got != want) {
            report(call + " answered " + got + ", due is " + want);
        }
    }

    static void due(String call, boolean got, boolean want) {
        due(call, got ? 1 : 0, want ? 1 : 0);
    }

    /** The very class is due: a class below it would have been thrown by the machine. */
    static void fails(String call, Class<? extends RuntimeException> want, Call made) {
        try {
            made.make();
        } catch (RuntimeException e) {
            if (e.getClass() != want) {
                report(call + " threw " + e.getClass().getName() + ", due is " + want.getName());
            }
            return;
        }
        report(call + " threw nothing, due is " + want.getName());
    }

    static void report(String fault) {
        wrong++;
        System.out.println(fault);
    }

    static void end() {
        System.out.println(wrong == 0 ? "all answers are as due" : wrong + " faults");
        if (wrong != 0) {
            System.exit(1);
        }
    }
}
