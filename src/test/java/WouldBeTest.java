/** Promises 14 to 19: done, foresee, lasts, salt, share, digest. */
public final class WouldBeTest {
    public static void main(String[] args) {
        done();
        doneOverDays();
        doneRefuses();
        foresee();
        foreseeRefuses();
        lasts();
        lastsAtTheEdge();
        salt();
        saltIsTheLeastOfTheColdest();
        saltRefuses();
        share();
        digest();
        Due.end("WouldBeTest");
    }

    private static void done() {
        ColdCreamery x = Scenes.stocked(300, 300, 60, 0, 3, 1);
        Due.is("done(0) of an empty one", x.done(0), -1);
        x.pack(0, 40, 20);
        Due.is("done(0) of an empty one in brine", x.done(0), -1);
        x.pour(0, 3);
        x.pour(1, 3);
        long before = x.digest();
        Due.is("done(0)", x.done(0), 8);
        Due.is("done(1), not cold", x.done(1), -1);
        Due.is("digest() after done", x.digest(), before);
        for (int left = 7; left >= 0; left--) {
            x.pass(1);
            Due.is("done(0) later", x.done(0), left);
        }
        Due.is("told(0, 2)", x.told(0, 2), 52);
        x.pass(1);
        Due.is("done(0) when it is firm", x.done(0), 0);
        x.scoop(0, 0);
        Due.is("done(0) when it is scooped out", x.done(0), -1);
        ColdCreamery y = Scenes.stocked(0, 0, 60, 0, 1, 0);
        Scenes.firmCream(y, 1, 5);
        Due.is("told(0, 2)", y.told(0, 2), 50);
        Due.is("done(0) at just 50", y.done(0), 0);
    }

    private static void doneOverDays() {
        ColdCreamery x = Scenes.stocked(300, 300, 60, 0, 1, 0);
        x.setHeat(0, 0);
        x.setHeat(1, 40);
        x.pass(22);
        x.pack(0, 40, 20);
        x.pour(0, 20);
        // 10 and 9 on this day, then 9, 7, 6, 4, 2, 1 by a heat of 40: 48 in all
        Due.is("done(0) before a hot day", x.done(0), -1);
        x.setHeat(1, 30);
        // 10 and 9 on this day, then 9, 8, 6, 5, 4: 51
        Due.is("done(0) before a warm day", x.done(0), 7);
        x.setHeat(1, 0);
        Due.is("done(0) before a cold day", x.done(0), 6);
    }

    private static void doneRefuses() {
        ColdCreamery x = Scenes.stocked(300, 300, 60, 0, 2, 6);
        int[] none = {-1, 2, 3, 4, Integer.MIN_VALUE, Integer.MAX_VALUE};
        for (int churn : none) {
            Due.index(x, "done(" + churn + ")", () -> x.done(churn));
        }
    }

    private static ColdCreamery shop() {
        ColdCreamery x = Scenes.stocked(150, 60, 60, 70, 2, 2);
        x.pass(4);
        Scenes.firmCream(x, 16, 6);
        x.scoop(0, 1);
        x.setHeat(1, 36);
        x.setHeat(2, 28);
        Scenes.firmCream(x, 20, 2);
        return x;
    }

    private static void foresee() {
        int[] kinds = {2, 6, 7, 8, 9};
        ColdCreamery x = shop();
        long before = x.digest();
        for (int hours = 1; hours <= 168; hours++) {
            ColdCreamery y = shop();
            y.pass(hours);
            for (int what : kinds) {
                Due.is("foresee(" + hours + ", " + what + ")", x.foresee(hours, what), y.count(what));
            }
        }
        Due.is("digest() after foresee", x.digest(), before);
        Due.is("foresee(1, 8): five people more", x.foresee(1, 8) - x.count(8), 5);
        Due.is("foresee(1, 6): and their coins", x.foresee(1, 6) - x.count(6), 15);
        Due.is("foresee(1, 7): and their scoops", x.foresee(1, 7) - x.count(7), -5);
        Due.is("foresee(1, 2)", x.foresee(1, 2), x.count(2) - 4);
        foreseeSoftScoops();
    }

    private static void foreseeSoftScoops() {
        ColdCreamery x = Scenes.stocked(0, 0, 60, 60, 1, 2);
        x.pass(5);
        Scenes.firmCream(x, 20, 5);
        x.scoop(0, 0);
        x.setHeat(0, 24);
        Due.is("foresee(1, 6): soft by 52", x.foresee(1, 6), 12);
        Due.is("foresee(2, 6)", x.foresee(2, 6), 24);
        x.setHeat(0, 16);
        Due.is("foresee(1, 6): soft by 49", x.foresee(1, 6), 12);
        Due.is("foresee(2, 8)", x.foresee(2, 8), 8);
    }

    private static void foreseeRefuses() {
        ColdCreamery x = shop();
        int[] wrongHours = {0, -1, 169, Integer.MIN_VALUE, Integer.MAX_VALUE};
        for (int hours : wrongHours) {
            Due.argument(x, "foresee(" + hours + ", 2)", () -> x.foresee(hours, 2));
            Due.argument(x, "foresee(" + hours + ", 3)", () -> x.foresee(hours, 3));
        }
        int[] wrongWhat = {-1, 0, 1, 3, 4, 5, 10, Integer.MIN_VALUE, Integer.MAX_VALUE};
        for (int what : wrongWhat) {
            Due.index(x, "foresee(1, " + what + ")", () -> x.foresee(1, what));
            Due.index(x, "foresee(168, " + what + ")", () -> x.foresee(168, what));
        }
    }

    private static void lasts() {
        ColdCreamery x = new ColdCreamery();
        Due.is("lasts() without ice", x.lasts(), 0);
        x.bring(0, 1);
        Due.is("lasts() with 1", x.lasts(), 1);
        x.bring(0, 3);
        Due.is("lasts() with 4", x.lasts(), 1);
        x.bring(0, 1);
        long before = x.digest();
        Due.is("lasts() with 5", x.lasts(), 5);
        Due.is("digest() after lasts", x.digest(), before);
        x.pass(1);
        Due.is("lasts() with 1 at 1", x.lasts(), 4);
        x.setHeat(0, 4);
        Due.is("lasts() until the next day", x.lasts(), 24);
        Scenes.heatAllDays(x, 4);
        Due.is("lasts() when nothing melts", x.lasts(), -1);
        x.setHeat(6, 5);
        Due.is("lasts() until the seventh day", x.lasts(), 144);
        ColdCreamery y = Scenes.stocked(900, 0, 0, 0, 0, 0);
        Due.is("lasts() with 900", y.lasts(), 897);
    }

    private static void lastsAtTheEdge() {
        ColdCreamery x = Scenes.stocked(753, 0, 0, 0, 0, 0);
        Scenes.heatAllDays(x, 15);
        x.pass(1);
        Due.is("lasts(): in the hour 1000", x.lasts(), -1);
        x.pass(1);
        Due.is("lasts(): in the hour 999", x.lasts(), 999);
        x.bring(0, 1);
        Due.is("lasts() with one more", x.lasts(), -1);
        x.pass(1);
        Due.is("lasts() with one more an hour later", x.lasts(), -1);
    }

    private static void salt() {
        ColdCreamery x = Scenes.stocked(60, 60, 0, 0, 2, 0);
        int[] ices = {0, 3, 4, 7, 8, 36, 39, 40, 44, 60};
        int[] salts = {0, 0, 2, 2, 4, 18, 18, 20, 19, 15};
        long before = x.digest();
        for (int i = 0; i < ices.length; i++) {
            Due.is("salt(1, " + ices[i] + ")", x.salt(1, ices[i]), salts[i]);
        }
        Due.is("digest() after salt", x.digest(), before);
        ColdCreamery bare = Scenes.stocked(0, 0, 0, 0, 1, 0);
        Due.is("salt(0, 40) with nothing in the cellar", bare.salt(0, 40), 20);
        x.pack(0, 60, 14);
        Due.is("salt(0, 0) at 29", x.salt(0, 0), 0);
        Due.is("salt(0, 3) at 29", x.salt(0, 3), 0);
        Due.is("salt(0, 4) at 29", x.salt(0, 4), 0);
        x.pass(1);
        Due.is("salt(0, 4) at 26", x.salt(0, 4), 2);
        Due.is("salt(0, 8) at 26", x.salt(0, 8), 2);
        Due.is("salt(0, 12) at 26", x.salt(0, 12), 1);
        Due.is("salt(0, 60) at 26", x.salt(0, 60), 0);
    }

    private static void saltIsTheLeastOfTheColdest() {
        for (int ice = 0; ice <= 60; ice++) {
            int coldest = -1;
            int least = -1;
            for (int salt = 0; salt <= 60; salt++) {
                int cold = inBrine().pack(0, ice, salt);
                if (cold > coldest) {
                    coldest = cold;
                    least = salt;
                }
            }
            Due.is("salt(0, " + ice + ")", inBrine().salt(0, ice), least);
        }
    }

    private static ColdCreamery inBrine() {
        ColdCreamery x = Scenes.stocked(300, 300, 0, 0, 1, 0);
        x.pack(0, 20, 2);
        return x;
    }

    private static void saltRefuses() {
        ColdCreamery x = Scenes.stocked(60, 60, 0, 0, 2, 6);
        int[] none = {-1, 2, 4, Integer.MIN_VALUE, Integer.MAX_VALUE};
        for (int churn : none) {
            Due.index(x, "salt(" + churn + ", 4)", () -> x.salt(churn, 4));
            Due.index(x, "salt(" + churn + ", 61)", () -> x.salt(churn, 61));
        }
        int[] wrong = {-1, 61, Integer.MIN_VALUE, Integer.MAX_VALUE};
        for (int ice : wrong) {
            Due.argument(x, "salt(0, " + ice + ")", () -> x.salt(0, ice));
        }
    }

    private static void share() {
        ColdCreamery x = Scenes.stocked(0, 0, 60, 7, 1, 2);
        x.pass(5);
        Due.isShare("share() when nobody came", x.share(), 0.0);
        Scenes.firmCream(x, 3, 5);
        x.scoop(0, 1);
        x.pass(1);
        Due.isShare("share() of all", x.share(), 1.0);
        x.pass(1);
        Due.isShare("share() of 6 in 10", x.share(), 6.0 / 10.0);
        x.pass(1);
        Due.isShare("share() of 6 in 15", x.share(), 6.0 / 15.0);
        ColdCreamery y = new ColdCreamery();
        y.pass(24);
        Due.isShare("share() of none", y.share(), 0.0);
    }

    private static void digest() {
        ColdCreamery x = shop();
        int[] heats = {20, 36, 28, 20, 20, 20, 3};
        x.setHeat(6, 3);
        Due.is("digest()", x.digest(), digestBy(x, heats, 2, 2));
        Due.is("digest() again", x.digest(), digestBy(x, heats, 2, 2));
        x.churn();
        Due.is("digest() with a churn more", x.digest(), digestBy(x, heats, 3, 2));
        x.tub();
        Due.is("digest() with a tub more", x.digest(), digestBy(x, heats, 3, 3));
    }

    private static long digestBy(ColdCreamery x, int[] heats, int churns, int tubs) {
        long digest = 1103;
        for (int what = 0; what < 10; what++) {
            digest = digest * 31 + x.count(what);
        }
        for (int heat : heats) {
            digest = digest * 31 + heat;
        }
        for (int i = 0; i < churns * 3; i++) {
            digest = digest * 31 + x.told(i / 3, i % 3);
        }
        for (int i = 0; i < tubs * 3; i++) {
            digest = digest * 31 + x.about(i / 3, i % 3);
        }
        return digest;
    }
}
