/** What the tests share: counting wrong answers, and looking at exceptions. */
final class Check {
    interface Call {
        void run();
    }

    private static int wrong = 0;
    private static int looks = 0;
    /** What the answers are held against just now; it stands before each report. */
    private static String context = "";

    private Check() {
    }

    static void begin(String newContext) {
        context = newContext;
        looks = 0;
    }

    /** How many answers were looked at since begin. */
    static int looks() {
        return looks;
    }

    static int wrong() {
        return wrong;
    }

    static void same(String what, long got, long due) {
        looks++;
        if (got != due) {
            report(what + " answered " + got + ", due is " + due);
        }
    }

    static void same(String what, double got, double due) {
        looks++;
        if (got != due) {
            report(what + " answered " + got + ", due is " + due);
        }
    }

    static void same(String what, String got, String due) {
        looks++;
        if (!got.equals(due)) {
            report(what + " answered " + got + ", due is " + due);
        }
    }

    static void yes(String what, boolean got) {
        looks++;
        if (!got) {
            report(what + " answered false, due is true");
        }
    }

    static void no(String what, boolean got) {
        looks++;
        if (got) {
            report(what + " answered true, due is false");
        }
    }

    /** The exception must be of the very class, since a class below it could be one that the machine throws. */
    static void refused(String what, Class<? extends RuntimeException> due, Call call) {
        looks++;
        try {
            call.run();
        } catch (RuntimeException e) {
            if (e.getClass() != due) {
                report(what + " threw " + e.getClass().getName() + ", due is " + due.getName());
            }
            return;
        }
        report(what + " threw nothing, due is " + due.getName());
    }

    static void index(String what, Call call) {
        refused(what, IndexOutOfBoundsException.class, call);
    }

    static void argument(String what, Call call) {
        refused(what, IllegalArgumentException.class, call);
    }

    static void state(String what, Call call) {
        refused(what, IllegalStateException.class, call);
    }

    static void unsupported(String what, Call call) {
        refused(what, UnsupportedOperationException.class, call);
    }

    static void missing(String what, Call call) {
        refused(what, java.util.NoSuchElementException.class, call);
    }

    static void arithmetic(String what, Call call) {
        refused(what, ArithmeticException.class, call);
    }

    static void report(String line) {
        wrong++;
        System.out.println(context + line);
    }

    static void finish() {
        System.out.println(wrong == 0 ? "all answers are as due" : wrong + " answers are not as due");
        if (wrong != 0) {
            System.exit(1);
        }
    }
}
