/** Long runs of mixed calls, each answer compared with that of the model; every run is the same each time. */
public final class ModelTest {
    private static final int RUNS = 400;
    private static final int CALLS = 512;
    private static final int[] WILD = {-1, 0, 7, 10, 21, 61, 169, 301, Integer.MIN_VALUE, Integer.MAX_VALUE};

    private static long seed;
    private static ColdCreamery x;
    private static Model m;
    private static int sold = 0;

    public static void main(String[] args) {
        for (int run = 0; run < RUNS; run++) {
            seed = run;
            x = new ColdCreamery();
            m = new Model();
            for (int call = 0; call < CALLS; call++) {
                oneCall("run " + run + ", call " + call + ": ");
            }
            sold += x.count(8);
        }
        Due.is("the runs sell enough to mean something: 1 if so", sold > RUNS * 50 ? 1 : 0, 1);
        Due.end("ModelTest");
    }

    /** A number from 0 to below that many, out of a plain generator with a written seed. */
    private static int draw(int many) {
        seed = seed * 6364136223846793005L + 1442695040888963407L;
        return (int) ((seed >>> 33) % many);
    }

    private static int from(int low, int high) {
        return draw(60) == 0 ? WILD[draw(WILD.length)] : low + draw(high - low + 1);
    }

    private static void oneCall(String at) {
        int kind = draw(100);
        if (kind < 30) {
            supply(at, kind);
        } else if (kind < 60) {
            make(at, kind);
        } else if (kind < 80) {
            let(at, kind);
        } else {
            ask(at, kind);
        }
        Due.is(at + "digest() then", x.digest(), m.digest());
    }

    private static void supply(String at, int kind) {
        if (kind < 24) {
            int what = from(0, 3);
            int many = from(1, what == 0 ? 80 : 40);
            Due.isText(at + "bring(" + what + ", " + many + ")", Due.outcome(() -> x.bring(what, many)),
                m.bring(what, many));
        } else if (kind < 27) {
            int day = from(0, 6);
            int heat = from(0, 40);
            Due.isText(at + "setHeat(" + day + ", " + heat + ")", Due.outcome(() -> x.setHeat(day, heat)),
                m.setHeat(day, heat));
        } else if (kind < 29) {
            Due.isText(at + "churn()", Due.outcome(() -> x.churn()), m.churn());
        } else {
            Due.isText(at + "tub()", Due.outcome(() -> x.tub()), m.tub());
        }
    }

    private static void make(String at, int kind) {
        int churn = from(0, 3);
        if (kind < 45) {
            int ice = from(0, 60);
            int salt = from(0, 30);
            Due.isText(at + "pack(" + churn + ", " + ice + ", " + salt + ")",
                Due.outcome(() -> x.pack(churn, ice, salt)), m.pack(churn, ice, salt));
        } else if (kind < 49) {
            int cream = from(1, 20);
            Due.isText(at + "pour(" + churn + ", " + cream + ")", Due.outcome(() -> x.pour(churn, cream)),
                m.pour(churn, cream));
        } else {
            int tub = from(0, 5);
            Due.isText(at + "scoop(" + churn + ", " + tub + ")", Due.outcome(() -> x.scoop(churn, tub)),
                m.scoop(churn, tub));
        }
    }

    private static void let(String at, int kind) {
        int hours = kind == 60 ? from(1, 168) : from(1, 3);
        Due.isText(at + "pass(" + hours + ")", Due.outcome(() -> x.pass(hours)), m.pass(hours));
    }

    private static void ask(String at, int kind) {
        int a = from(0, kind == 80 ? 9 : 3);
        int b = from(0, 2);
        int hours = from(1, 168);
        int ice = from(0, 60);
        switch (kind % 10) {
            case 0:
                Due.isText(at + "count(" + a + ")", Due.outcome(() -> x.count(a)), m.count(a));
                break;
            case 1:
                Due.isText(at + "told(" + a + ", " + b + ")", Due.outcome(() -> x.told(a, b)), m.told(a, b));
                break;
            case 2:
                Due.isText(at + "about(" + a + ", " + b + ")", Due.outcome(() -> x.about(a, b)), m.about(a, b));
                break;
            case 3:
                Due.is(at + "next()", x.next(), m.next());
                break;
            case 4:
                Due.isText(at + "done(" + a + ")", Due.outcome(() -> x.done(a)), m.done(a));
                break;
            case 5:
            case 6:
                int what = a == 3 ? 2 : 6 + a;
                Due.isText(at + "foresee(" + hours + ", " + what + ")", Due.outcome(() -> x.foresee(hours, what)),
                    m.foresee(hours, what));
                break;
            case 7:
                Due.is(at + "lasts()", x.lasts(), m.lasts());
                break;
            case 8:
                Due.isText(at + "salt(" + a + ", " + ice + ")", Due.outcome(() -> x.salt(a, ice)), m.salt(a, ice));
                break;
            default:
                Due.isShare(at + "share()", x.share(), m.share());
                break;
        }
    }
}
