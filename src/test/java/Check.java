/** Counts the checks of each promise and prints those that fail. */
final class Check {
    interface Call {
        Object on(LinkTraining x);
    }

    private static final int PROMISES = 62;
    private static final int[] CHECKED = new int[PROMISES + 1];
    private static int wrong = 0;

    private Check() { }

    static void same(int promise, String what, Object got, Object want) {
        CHECKED[promise]++;
        if (!got.equals(want)) {
            wrong++;
            System.out.println("promise " + promise + ": " + what + " answered " + got + ", due is " + want);
        }
    }

    /** What a call answers: its result, or the name of the exception that it throws. */
    static Object answer(LinkTraining x, Call call) {
        try {
            return call.on(x);
        } catch (RuntimeException e) {
            return thrown(e, LinkTraining.class);
        }
    }

    /** The exception's name; with a remark if not the program's own throw but the Java library threw it. */
    static String thrown(Throwable e, Class<?> thrower) {
        StackTraceElement[] trace = e.getStackTrace();
        boolean own = trace.length > 0 && trace[0].getClassName().startsWith(thrower.getName());
        return e.getClass().getName() + (own ? "" : ", not by its own throw");
    }

    static void refuses(int promise, String what, LinkTraining x, Class<? extends RuntimeException> due, Call call) {
        same(promise, what, answer(x, call), due.getName());
    }

    /** Ends the program; a promise without a check is a failure where all are asked for. */
    static void end(boolean all) {
        int checks = 0;
        for (int promise = 1; promise <= PROMISES; promise++) {
            checks += CHECKED[promise];
            if (all && CHECKED[promise] == 0) {
                wrong++;
                System.out.println("promise " + promise + " has no check");
            }
        }
        System.out.println(checks + " checks, " + wrong + " wrong");
        System.exit(wrong > 0 ? 1 : 0);
    }
}
