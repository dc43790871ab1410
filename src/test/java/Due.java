/** What the tests share: compares answers with the due ones and counts the wrong ones. */
final class Due {
    private static int checked = 0;
    private static int wrong = 0;

    private Due() {
    }

    interface Call {
        long run();
    }

    static void is(String call, long got, long want) {
        checked++;
        if (got != want) {
            wrong++;
            System.out.println(call + " answered " + got + ", due is " + want);
        }
    }

    static void isShare(String call, double got, double want) {
        checked++;
        if (Double.compare(got, want) != 0) {
            wrong++;
            System.out.println(call + " answered " + got + ", due is " + want);
        }
    }

    static void isText(String call, String got, String want) {
        checked++;
        if (!got.equals(want)) {
            wrong++;
            System.out.println(call + " answered " + got + ", due is " + want);
        }
    }

    /** The very class counts: the machine's exceptions are subclasses of those that the document names. */
    static String outcome(Call call) {
        try {
            return Long.toString(call.run());
        } catch (RuntimeException e) {
            return e.getClass().getSimpleName();
        }
    }

    static void index(ColdCreamery x, String name, Call call) {
        refused(x, name, call, "IndexOutOfBoundsException");
    }

    static void argument(ColdCreamery x, String name, Call call) {
        refused(x, name, call, "IllegalArgumentException");
    }

    static void state(ColdCreamery x, String name, Call call) {
        refused(x, name, call, "IllegalStateException");
    }

    private static void refused(ColdCreamery x, String name, Call call, String want) {
        long before = x.digest();
        isText(name, outcome(call), want);
        is(name + " must change nothing, digest()", x.digest(), before);
    }

    static void end(String test) {
        System.out.println(test + ": " + checked + " checked, " + wrong + " wrong");
        if (wrong != 0) {
            System.exit(1);
        }
    }
}
