/** Promises 1 to 3: a new object, bring, setHeat. */
public final class CellarTest {
    public static void main(String[] args) {
        newObject();
        bring();
        bringStopsAtTheLimits();
        bringRefuses();
        setHeat();
        setHeatRefuses();
        heatOfEachDay();
        Due.end("CellarTest");
    }

    private static void newObject() {
        ColdCreamery x = new ColdCreamery();
        long digest = 1103;
        for (int what = 0; what < 10; what++) {
            long want = what == 1 ? 20 : 0;
            Due.is("new: count(" + what + ")", x.count(what), want);
            digest = digest * 31 + want;
        }
        for (int day = 0; day < 7; day++) {
            digest = digest * 31 + 20;
        }
        Due.is("new: digest()", x.digest(), digest);
        Due.is("new: next()", x.next(), -1);
        Due.is("new: lasts()", x.lasts(), 0);
        Due.isShare("new: share()", x.share(), 0.0);
        Due.index(x, "new: told(0, 0)", () -> x.told(0, 0));
        Due.index(x, "new: about(0, 0)", () -> x.about(0, 0));
        new ColdCreamery().bring(0, 5);
        Due.is("another object leaves this one alone: count(2)", x.count(2), 0);
    }

    private static void bring() {
        ColdCreamery x = new ColdCreamery();
        for (int what = 0; what < 4; what++) {
            Due.is("bring(" + what + ", 1)", x.bring(what, 1), 1);
            Due.is("bring(" + what + ", 7)", x.bring(what, 7 + what), 8 + what);
        }
        for (int what = 0; what < 4; what++) {
            Due.is("count(" + (what + 2) + ")", x.count(what + 2), 8 + what);
        }
    }

    private static void bringStopsAtTheLimits() {
        ColdCreamery x = new ColdCreamery();
        Due.is("bring(0, 300)", x.bring(0, 300), 300);
        Due.is("bring(0, 300)", x.bring(0, 300), 600);
        Due.is("bring(0, 299)", x.bring(0, 299), 899);
        Due.is("bring(0, 1)", x.bring(0, 1), 900);
        Due.is("bring(0, 300)", x.bring(0, 300), 900);
        for (int what = 1; what < 4; what++) {
            Due.is("bring(" + what + ", 300)", x.bring(what, 300), 300);
            Due.is("bring(" + what + ", 1)", x.bring(what, 1), 300);
            Due.is("count(" + (what + 2) + ")", x.count(what + 2), 300);
        }
        ColdCreamery y = new ColdCreamery();
        y.bring(2, 200);
        Due.is("bring(2, 101) over the limit", y.bring(2, 101), 300);
    }

    private static void bringRefuses() {
        ColdCreamery x = Scenes.stocked(10, 10, 10, 10, 0, 0);
        int[] wrongWhat = {-1, 4, Integer.MIN_VALUE, Integer.MAX_VALUE};
        for (int what : wrongWhat) {
            Due.index(x, "bring(" + what + ", 1)", () -> x.bring(what, 1));
            Due.index(x, "bring(" + what + ", 0)", () -> x.bring(what, 0));
        }
        int[] wrongMany = {0, -1, 301, Integer.MIN_VALUE, Integer.MAX_VALUE};
        for (int many : wrongMany) {
            Due.argument(x, "bring(0, " + many + ")", () -> x.bring(0, many));
            Due.argument(x, "bring(3, " + many + ")", () -> x.bring(3, many));
        }
    }

    private static void setHeat() {
        ColdCreamery x = new ColdCreamery();
        Due.is("setHeat(0, 0)", x.setHeat(0, 0), 20);
        Due.is("setHeat(0, 40)", x.setHeat(0, 40), 0);
        Due.is("setHeat(0, 33)", x.setHeat(0, 33), 40);
        Due.is("setHeat(6, 40)", x.setHeat(6, 40), 20);
        Due.is("count(1) on day 0", x.count(1), 33);
    }

    private static void setHeatRefuses() {
        ColdCreamery x = new ColdCreamery();
        int[] wrongDay = {-1, 7, Integer.MIN_VALUE, Integer.MAX_VALUE};
        for (int day : wrongDay) {
            Due.index(x, "setHeat(" + day + ", 20)", () -> x.setHeat(day, 20));
            Due.index(x, "setHeat(" + day + ", 41)", () -> x.setHeat(day, 41));
        }
        int[] wrongHeat = {-1, 41, Integer.MIN_VALUE, Integer.MAX_VALUE};
        for (int heat : wrongHeat) {
            Due.argument(x, "setHeat(0, " + heat + ")", () -> x.setHeat(0, heat));
            Due.argument(x, "setHeat(6, " + heat + ")", () -> x.setHeat(6, heat));
        }
    }

    private static void heatOfEachDay() {
        ColdCreamery x = new ColdCreamery();
        for (int day = 0; day < 7; day++) {
            x.setHeat(day, day + 1);
        }
        for (int day = 0; day < 15; day++) {
            Due.is("count(1) on day " + day, x.count(1), day % 7 + 1);
            x.pass(23);
            Due.is("count(1) in the last hour of day " + day, x.count(1), day % 7 + 1);
            x.pass(1);
        }
    }
}
