/**
 * Every call with each value at an edge of each argument, in an empty cellar, in one that has some, and
 * in a full one: what is refused and by which exception, the first one where several apply,
 * that a refused call changes nothing, and that nothing else is refused.
 */
public final class RefusalsTest {
    private static final String INDEX = "IndexOutOfBoundsException";
    private static final String ARGUMENT = "IllegalArgumentException";
    private static final String STATE = "IllegalStateException";
    private static final String NONE = "an answer";
    private static final int EMPTY = 0;
    private static final int SOME = 1;
    private static final int FULL = 2;
    private static final int SCENES = 3;
    private static final int LEAST = Integer.MIN_VALUE;
    private static final int MOST = Integer.MAX_VALUE;

    private static final int[] CHURNS = {LEAST, -1, 0, 1, 2, 3, 4, MOST};
    private static final int[] TUBS = {LEAST, -1, 0, 2, 3, 5, 6, MOST};
    private static final int[] PACKED = {LEAST, -1, 0, 10, 11, 20, 21, 60, 61, MOST};
    private static final int[] POURED = {LEAST, -1, 0, 1, 5, 6, 7, 8, 20, 21, MOST};
    private static final int[] WHATS = {LEAST, -1, 0, 1, 2, 3, 4, 5, 6, 7, 8, 9, 10, MOST};
    private static final int[] HOURS = {LEAST, -1, 0, 1, 168, 169, MOST};

    private static int scene;
    private static final int[] refused = new int[SCENES];
    private static final int[] answered = new int[SCENES];

    interface On {
        long run(ColdCreamery x);
    }

    public static void main(String[] args) {
        for (scene = 0; scene < SCENES; scene++) {
            bring();
            setHeat();
            churnAndTub();
            pack();
            pour();
            scoop();
            told();
            about();
            count();
            pass();
            done();
            foresee();
            salt();
            neverRefused();
        }
        Due.sentence("If several exceptions apply, the one that is named first is thrown");
        for (int i = 0; i < SCENES; i++) {
            boolean both = refused[i] > 100 && answered[i] > 20;
            Due.is("refused and answered calls in scene " + i + ": 1 if so", both ? 1 : 0, 1);
        }
        Due.end("RefusalsTest");
    }

    private static ColdCreamery make() {
        return scene == EMPTY ? new ColdCreamery() : scene == SOME ? some() : full();
    }

    /** Two churns, of which one is firm by 50 and one by less, three tubs, 20 ice, 10 salt, 7 cream, 5 cones. */
    private static ColdCreamery some() {
        ColdCreamery x = Scenes.quiet(2, 3);
        Scenes.brewBy(x, 10, new int[] {1, 15}, new int[] {50, 49});
        x.bring(0, 20);
        x.bring(1, 10);
        x.bring(2, 7);
        x.bring(3, 5);
        Scenes.heatAllDays(x, 24);
        return x;
    }

    private static ColdCreamery full() {
        ColdCreamery x = Scenes.quiet(4, 6);
        Scenes.brewBy(x, 10, new int[] {20, 20, 14, 20}, new int[] {100, 49, 50, 50});
        x.scoop(0, 2);
        for (int i = 0; i < 3; i++) {
            x.bring(0, 300);
            x.bring(i + 1, 300);
        }
        Scenes.heatAllDays(x, 24);
        return x;
    }

    private static int churns() {
        return scene == EMPTY ? 0 : scene == SOME ? 2 : 4;
    }

    private static int tubs() {
        return scene == EMPTY ? 0 : scene == SOME ? 3 : 6;
    }

    private static boolean isChurn(int churn) {
        return within(churn, 0, churns() - 1);
    }

    private static boolean isTub(int tub) {
        return within(tub, 0, tubs() - 1);
    }

    private static boolean within(int x, int low, int high) {
        return low <= x && x <= high;
    }

    private static int[] around(int low, int high) {
        return new int[] {LEAST, low - 1, low, low + 1, high - 1, high, high + 1, MOST};
    }

    private static void due(String call, On on, String want) {
        String name = "scene " + scene + ": " + call;
        ColdCreamery x = make();
        if (want.equals(NONE)) {
            answered[scene]++;
            Due.allowed(name, () -> on.run(x));
            return;
        }
        refused[scene]++;
        long before = x.digest();
        Due.isText(name, Due.outcome(() -> on.run(x)), want);
        Due.is(name + " must change nothing, digest()", x.digest(), before);
        Due.is(name + " must change nothing, later()", later(x), later(make()));
    }

    /** A number that tells how things go on from here. */
    private static long later(ColdCreamery x) {
        long told = 0;
        for (int i = 0; i < 4; i++) {
            told = told * 31 + x.lasts();
            told = told * 31 + x.foresee(30, 6);
            told = told * 31 + x.pass(9);
            told = told * 31 + x.digest();
        }
        return told;
    }

    private static void bring() {
        Due.sentence("bring: IndexOutOfBoundsException if what is not 0 to 3, "
            + "IllegalArgumentException if many is not 1 to 300");
        for (int what : around(0, 3)) {
            for (int many : around(1, 300)) {
                String want = !within(what, 0, 3) ? INDEX : !within(many, 1, 300) ? ARGUMENT : NONE;
                due("bring(" + what + ", " + many + ")", x -> x.bring(what, many), want);
            }
        }
    }

    private static void setHeat() {
        Due.sentence("setHeat: IndexOutOfBoundsException if day is not 0 to 6, "
            + "IllegalArgumentException if heat is not 0 to 40");
        for (int day : around(0, 6)) {
            for (int heat : around(0, 40)) {
                String want = !within(day, 0, 6) ? INDEX : !within(heat, 0, 40) ? ARGUMENT : NONE;
                due("setHeat(" + day + ", " + heat + ")", x -> x.setHeat(day, heat), want);
            }
        }
    }

    private static void churnAndTub() {
        Due.sentence("churn: IllegalStateException if there are 4");
        due("churn()", x -> x.churn(), churns() == 4 ? STATE : NONE);
        Due.sentence("tub: IllegalStateException if there are 6");
        due("tub()", x -> x.tub(), tubs() == 6 ? STATE : NONE);
    }

    private static void pack() {
        Due.sentence("pack: IndexOutOfBoundsException if there is no such churn, "
            + "IllegalArgumentException if ice or salt "
            + "is not 0 to 60, IllegalStateException if there is not so much in the cellar");
        ColdCreamery at = make();
        for (int churn : CHURNS) {
            for (int ice : PACKED) {
                for (int salt : PACKED) {
                    String want = !isChurn(churn) ? INDEX
                        : !within(ice, 0, 60) || !within(salt, 0, 60) ? ARGUMENT
                        : ice > at.count(2) || salt > at.count(3) ? STATE : NONE;
                    due("pack(" + churn + ", " + ice + ", " + salt + ")", x -> x.pack(churn, ice, salt), want);
                }
            }
        }
    }

    private static void pour() {
        Due.sentence("pour: IndexOutOfBoundsException if there is no such churn, "
            + "IllegalArgumentException if cream is not "
            + "1 to 20, IllegalStateException if there is not so much in the cellar, or it would hold more than 20");
        ColdCreamery at = make();
        for (int churn : CHURNS) {
            for (int cream : POURED) {
                String want = !isChurn(churn) ? INDEX : !within(cream, 1, 20) ? ARGUMENT
                    : cream > at.count(4) || at.told(churn, 1) + cream > 20 ? STATE : NONE;
                due("pour(" + churn + ", " + cream + ")", x -> x.pour(churn, cream), want);
            }
        }
    }

    private static void scoop() {
        Due.sentence("scoop: IndexOutOfBoundsException if there is no such churn or tub, "
            + "IllegalStateException if the churn "
            + "holds none, or is firm by less than 50");
        ColdCreamery at = make();
        for (int churn : CHURNS) {
            for (int tub : TUBS) {
                String want = !isChurn(churn) || !isTub(tub) ? INDEX
                    : at.told(churn, 1) == 0 || at.told(churn, 2) < 50 ? STATE : NONE;
                due("scoop(" + churn + ", " + tub + ")", x -> x.scoop(churn, tub), want);
            }
        }
    }

    private static void told() {
        Due.sentence("told: IndexOutOfBoundsException if there is no such churn, or what is not 0 to 2");
        for (int churn : CHURNS) {
            for (int what : WHATS) {
                String want = isChurn(churn) && within(what, 0, 2) ? NONE : INDEX;
                due("told(" + churn + ", " + what + ")", x -> x.told(churn, what), want);
            }
        }
    }

    private static void about() {
        Due.sentence("about: IndexOutOfBoundsException if there is no such tub, or what is not 0 to 2");
        for (int tub : TUBS) {
            for (int what : WHATS) {
                String want = isTub(tub) && within(what, 0, 2) ? NONE : INDEX;
                due("about(" + tub + ", " + what + ")", x -> x.about(tub, what), want);
            }
        }
    }

    private static void count() {
        Due.sentence("count: IndexOutOfBoundsException if what is not 0 to 9");
        for (int what : WHATS) {
            due("count(" + what + ")", x -> x.count(what), within(what, 0, 9) ? NONE : INDEX);
        }
    }

    private static void pass() {
        Due.sentence("pass: IllegalArgumentException if hours is not 1 to 168");
        for (int hours : HOURS) {
            due("pass(" + hours + ")", x -> x.pass(hours), within(hours, 1, 168) ? NONE : ARGUMENT);
        }
    }

    private static void done() {
        Due.sentence("done: IndexOutOfBoundsException if there is no such churn");
        for (int churn : CHURNS) {
            due("done(" + churn + ")", x -> x.done(churn), isChurn(churn) ? NONE : INDEX);
        }
    }

    private static void foresee() {
        Due.sentence("foresee: IllegalArgumentException if hours is not 1 to 168, "
            + "IndexOutOfBoundsException if what is none of these");
        for (int hours : HOURS) {
            for (int what : WHATS) {
                String want = !within(hours, 1, 168) ? ARGUMENT : what != 2 && !within(what, 6, 9) ? INDEX : NONE;
                due("foresee(" + hours + ", " + what + ")", x -> x.foresee(hours, what), want);
            }
        }
    }

    private static void salt() {
        Due.sentence("salt: IndexOutOfBoundsException if there is no such churn, "
            + "IllegalArgumentException if ice is not 0 to 60");
        for (int churn : CHURNS) {
            for (int ice : PACKED) {
                String want = !isChurn(churn) ? INDEX : !within(ice, 0, 60) ? ARGUMENT : NONE;
                due("salt(" + churn + ", " + ice + ")", x -> x.salt(churn, ice), want);
            }
        }
    }

    private static void neverRefused() {
        Due.sentence("next, lasts, share and digest throw nothing");
        due("next()", x -> x.next(), NONE);
        due("lasts()", x -> x.lasts(), NONE);
        due("share()", x -> (long) x.share(), NONE);
        due("digest()", x -> x.digest(), NONE);
    }
}
