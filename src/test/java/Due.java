import java.util.HashSet;
import java.util.Set;

/** What the tests share: compares answers with the due ones and counts the wrong ones. */
final class Due {
    private static int checked = 0;
    private static int wrong = 0;
    private static final Set<String> sentences = new HashSet<>();
    private static String sentence = "";

    private Due() {
    }

    interface Call {
        long run();
    }

    /** What is checked from here on is what these words of the document say: a wrong answer is told with them. */
    static void sentence(String words) {
        sentences.add(words);
        sentence = words + ": ";
    }

    static void is(String call, long got, long want) {
        isText(call, Long.toString(got), Long.toString(want));
    }

    static void isShare(String call, double got, double want) {
        isText(call, Double.toString(got), Double.toString(want));
    }

    static void isText(String call, String got, String want) {
        checked++;
        if (!got.equals(want)) {
            wrong++;
            System.out.println(sentence + call + " answered " + got + ", due is " + want);
        }
    }

    /** The very class counts: the machine's exceptions are subclasses of those that the document names. */
    static String outcome(Call call) {
        try {
            return Long.toString(call.run());
        } catch (RuntimeException e) {
            return e.getClass().getSimpleName();
        }
    }

    /** The call must not throw; what it answers is checked elsewhere. */
    static void allowed(String name, Call call) {
        String outcome = outcome(call);
        isText(name, outcome.endsWith("Exception") ? outcome : "an answer", "an answer");
    }

    static void index(ColdCreamery x, String name, Call call) {
        refused(x, name, call, "IndexOutOfBoundsException");
    }

    static void argument(ColdCreamery x, String name, Call call) {
        refused(x, name, call, "IllegalArgumentException");
    }

    static void state(ColdCreamery x, String name, Call call) {
        refused(x, name, call, "IllegalStateException");
    }

    private static void refused(ColdCreamery x, String name, Call call, String want) {
        long before = x.digest();
        isText(name, outcome(call), want);
        is(name + " must change nothing, digest()", x.digest(), before);
    }

    static void end(String test) {
        String of = sentences.isEmpty() ? "" : " of " + sentences.size() + " sentences";
        System.out.println(test + ": " + checked + " checked" + of + ", " + wrong + " wrong");
        if (wrong != 0) {
            System.exit(1);
        }
    }
}
