/** What the tests share: counts the answers that are not due, and tells them. */
final class Check {
    /** A call of which only the exception matters. */
    interface Call {
        void run();
    }

    private static int checks = 0;
    private static int wrong = 0;

    private Check() {
    }

    static void due(String what, long got, long due) {
        checks++;
        if (got != due) {
            wrong++;
            System.out.println(what + " answered " + got + ", due is " + due);
        }
    }

    /** The very class counts: an ArrayIndexOutOfBoundsException is no IndexOutOfBoundsException here. */
    static void refused(String what, Class<? extends RuntimeException> due, Call call) {
        checks++;
        Class<?> got = null;
        try {
            call.run();
        } catch (RuntimeException e) {
            got = e.getClass();
        }
        if (got != due) {
            wrong++;
            System.out.println(what + " threw " + (got == null ? "nothing" : got.getName()) + ", due is " + due.getName());
        }
    }

    static void noIndex(String what, Call call) {
        refused(what, IndexOutOfBoundsException.class, call);
    }

    static void noArgument(String what, Call call) {
        refused(what, IllegalArgumentException.class, call);
    }

    static void noState(String what, Call call) {
        refused(what, IllegalStateException.class, call);
    }

    static void end() {
        System.out.println(checks + " checks, " + wrong + " wrong");
        if (wrong != 0 || checks == 0) {
            System.exit(1);
        }
    }
}
