import java.util.List;

/** What the tests share: counts the answers that are not due, and tells them. */
final class Check {
    /** A call of which only the exception matters. */
    interface Call {
        void run();
    }

    private static int checks = 0;
    private static int wrong = 0;
    private static String sentence = "";

    private Check() {
    }

    /** The words of the document that the checks behind it are about, and the promise where they stand. */
    static void sentence(String words) {
        sentence = words + ": ";
    }

    static void due(String what, long got, long due) {
        checks++;
        if (got != due) {
            tell(what + " answered " + got + ", due is " + due);
        }
    }

    /** Tells the first line that differs; the lists come from the same questions. */
    static void same(String what, List<String> got, List<String> due) {
        checks++;
        int line = 0;
        while (line < got.size() && line < due.size() && got.get(line).equals(due.get(line))) {
            line++;
        }
        if (line < got.size() || line < due.size()) {
            String gotLine = line < got.size() ? got.get(line) : "nothing";
            String dueLine = line < due.size() ? due.get(line) : "nothing";
            tell(what + ": " + gotLine + ", due is " + dueLine);
        }
    }

    /** The very class counts: an ArrayIndexOutOfBoundsException is no IndexOutOfBoundsException here. */
    static void refused(String what, Class<? extends RuntimeException> due, Call call) {
        checks++;
        Class<?> got = null;
        try {
            call.run();
        } catch (RuntimeException e) {
            got = e.getClass();
        }
        if (got != due) {
            tell(what + " threw " + (got == null ? "nothing" : got.getName()) + ", due is " + due.getName());
        }
    }

    static void noIndex(String what, Call call) {
        refused(what, IndexOutOfBoundsException.class, call);
    }

    static void noArgument(String what, Call call) {
        refused(what, IllegalArgumentException.class, call);
    }

    static void noState(String what, Call call) {
        refused(what, IllegalStateException.class, call);
    }

    /** The numbers next to a range on both sides, and the ones farthest from it. */
    static int[] outside(int first, int last) {
        return new int[] {Integer.MIN_VALUE, Integer.MIN_VALUE + 1, -1 - last, first - 1, last + 1, last + 2, 1 << 17,
            1 << 30, Integer.MAX_VALUE - 1, Integer.MAX_VALUE};
    }

    static void end() {
        System.out.println(checks + " checks, " + wrong + " wrong");
        if (wrong != 0 || checks == 0) {
            System.exit(1);
        }
    }

    private static void tell(String what) {
        wrong++;
        System.out.println(sentence + what);
    }
}
