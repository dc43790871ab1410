/** The edges that the document names under its Terms, but for the hour's (HourEdgesTest). */
public final class TermsEdgesTest {
    public static void main(String[] args) {
        calls();
        cuts();
        hourOfTheDay();
        dayOfTheTable();
        heatOfTheTable();
        cellarAtFirst();
        cellarAtItsLimits();
        churnsAtMost();
        churnsAtFirst();
        churnsAtTheirLimits();
        brineByIce();
        brineBySalt();
        brineAtMost();
        tubsAtMost();
        tubsAtFirst();
        tubsAtTheirLimits();
        Due.end("TermsEdgesTest");
    }

    private static void calls() {
        Due.sentence("An object is used for at most 512 calls after it has been made");
        ColdCreamery x = new ColdCreamery();
        Due.is("call 1: bring(0, 300)", x.bring(0, 300), 300);
        for (int call = 2; call <= 510; call++) {
            x.pass(168);
        }
        Due.is("call 511: count(0)", x.count(0), 509 * 168);
        Due.is("call 512: count(9)", x.count(9), 509 * 7 * 9 * 5);
    }

    private static void cuts() {
        Due.sentence("All numbers are whole, and / is cut towards 0");
        ColdCreamery x = Scenes.quiet(1, 0);
        x.bring(0, 300);
        Due.is("pack(0, 3, 0)", x.pack(0, 3, 0), 0);
        Due.is("pack(0, 7, 0)", x.pack(0, 7, 0), 1);
        x.bring(2, 3);
        x.pour(0, 1);
        Scenes.coolTo(x, 0, 5);
        x.pass(1);
        Due.is("firm by 5 / 3", x.told(0, 2), 1);
        Due.is("pour(0, 2): 1 * 1 / 3", x.pour(0, 2), 0);
    }

    private static void hourOfTheDay() {
        Due.sentence("the hour of the day is the remainder of it by 24, the day is the hour / 24");
        ColdCreamery x = new ColdCreamery();
        x.setHeat(0, 8);
        x.setHeat(1, 4);
        x.pass(23);
        Due.is("count(1) in the hour 23", x.count(1), 8);
        Due.is("count(9) in the hour 23", x.count(9), 18);
        x.pass(1);
        Due.is("count(1) in the hour 24", x.count(1), 4);
        x.pass(10);
        Due.is("count(9) in the hour 34", x.count(9), 18);
        x.pass(1);
        Due.is("count(9) in the hour 35", x.count(9), 19);
    }

    private static void dayOfTheTable() {
        Due.sentence("7 days (the day by the remainder of 7)");
        ColdCreamery x = new ColdCreamery();
        x.setHeat(0, 1);
        x.setHeat(6, 7);
        Scenes.passTo(x, 143);
        Due.is("count(1) in the last hour of day 5", x.count(1), 20);
        x.pass(1);
        Due.is("count(1) in the first hour of day 6", x.count(1), 7);
        x.pass(23);
        Due.is("count(1) in the last hour of day 6", x.count(1), 7);
        x.pass(1);
        Due.is("count(1) in the first hour of day 7", x.count(1), 1);
        x.pass(167);
        Due.is("count(1) in the last hour of day 13", x.count(1), 7);
        x.pass(1);
        Due.is("count(1) in the first hour of day 14", x.count(1), 1);
    }

    private static void heatOfTheTable() {
        Due.sentence("the heat, 0 to 40 (20, at first)");
        ColdCreamery x = new ColdCreamery();
        for (int i = 0; i < 7; i++) {
            int day = i;
            Due.is("setHeat(" + day + ", 0)", x.setHeat(day, 0), 20);
            Due.argument(x, "setHeat(" + day + ", -1)", () -> x.setHeat(day, -1));
            Due.is("setHeat(" + day + ", 40)", x.setHeat(day, 40), 0);
            Due.argument(x, "setHeat(" + day + ", 41)", () -> x.setHeat(day, 41));
            Due.is("setHeat(" + day + ", 20)", x.setHeat(day, 20), 40);
        }
    }

    private static void cellarAtFirst() {
        Due.sentence("(none, at first); and coins (0, at first)");
        ColdCreamery x = new ColdCreamery();
        for (int what = 2; what <= 6; what++) {
            Due.is("count(" + what + ")", x.count(what), 0);
        }
    }

    private static void cellarAtItsLimits() {
        Due.sentence("ice, 0 to 900, salt, 0 to 300, cream, 0 to 300, and cones, 0 to 300");
        int[] limits = {900, 300, 300, 300};
        for (int what = 0; what < 4; what++) {
            ColdCreamery x = new ColdCreamery();
            for (int there = 150; there < limits[what]; there += 150) {
                x.bring(what, 150);
            }
            Due.is("one below the limit of " + what, x.bring(what, 149), limits[what] - 1);
            Due.is("the limit of " + what, x.bring(what, 1), limits[what]);
            Due.is("one above the limit of " + what, x.bring(what, 1), limits[what]);
            Due.is("count(" + (what + 2) + ")", x.count(what + 2), limits[what]);
        }
    }

    private static void churnsAtMost() {
        Due.sentence("There are at most 4, numbered from 0 in the order of their setting up");
        ColdCreamery x = new ColdCreamery();
        Due.index(x, "told(0, 0) before the first", () -> x.told(0, 0));
        for (int i = 0; i < 4; i++) {
            int next = i + 1;
            Due.is("churn()", x.churn(), i);
            Due.is("told(" + i + ", 0)", x.told(i, 0), 0);
            Due.index(x, "told(" + next + ", 0)", () -> x.told(next, 0));
        }
        Due.state(x, "the fifth churn()", () -> x.churn());
    }

    private static void churnsAtFirst() {
        Due.sentence("a cold, 0 (at first) to 30, holds 0 (at first) to 20 cream, and this is firm by 0");
        ColdCreamery x = Scenes.stocked(60, 30, 20, 0, 1, 0);
        x.pack(0, 60, 15);
        x.pour(0, 20);
        x.pass(1);
        x.churn();
        for (int what = 0; what < 3; what++) {
            Due.is("told(1, " + what + ")", x.told(1, what), 0);
        }
    }

    private static void churnsAtTheirLimits() {
        Due.sentence("a cold, 0 to 30, holds 0 to 20 cream, and this is firm by 0 to 100");
        ColdCreamery x = Scenes.quiet(1, 0);
        Scenes.brewBy(x, 10, new int[] {19}, new int[] {100});
        x.bring(0, 60);
        Due.is("pack(0, 4, 0)", x.pack(0, 4, 0), 30);
        Due.is("pack(0, 4, 0)", x.pack(0, 4, 0), 30);
        x.pass(1);
        Due.is("told(0, 2)", x.told(0, 2), 100);
        x.bring(2, 2);
        Due.state(x, "pour(0, 2)", () -> x.pour(0, 2));
        Due.is("pour(0, 1)", x.pour(0, 1), 95);
        Due.is("told(0, 1)", x.told(0, 1), 20);
        Due.state(x, "pour(0, 1)", () -> x.pour(0, 1));
    }

    private static void brineByIce() {
        Due.sentence("with n = ice / 4 (cut) a churn gets colder by n");
        int[] ices = {0, 1, 3, 4, 5, 7, 8, 55, 56, 59, 60};
        int[] colds = {0, 0, 0, 1, 1, 1, 2, 13, 14, 14, 15};
        for (int i = 0; i < ices.length; i++) {
            ColdCreamery x = Scenes.stocked(60, 0, 0, 0, 1, 0);
            Due.is("pack(0, " + ices[i] + ", 0)", x.pack(0, ices[i], 0), colds[i]);
        }
    }

    private static void brineBySalt() {
        Due.sentence("and by as much more as the salt, of which no more than 2 * n counts");
        int[] ices = {0, 3, 4, 4, 4, 4, 7, 8, 8, 36, 36, 36};
        int[] salts = {60, 60, 0, 1, 2, 3, 60, 4, 5, 17, 18, 19};
        int[] colds = {0, 0, 1, 2, 3, 3, 3, 6, 6, 26, 27, 27};
        for (int i = 0; i < ices.length; i++) {
            ColdCreamery x = Scenes.stocked(60, 60, 0, 0, 1, 0);
            Due.is("pack(0, " + ices[i] + ", " + salts[i] + ")", x.pack(0, ices[i], salts[i]), colds[i]);
            Due.is("count(3): what does not count is gone too", x.count(3), 60 - salts[i]);
        }
    }

    private static void brineAtMost() {
        Due.sentence("(its cold is 30 at most)");
        int[] salts = {13, 14, 15, 16, 30, 31};
        int[] colds = {28, 29, 30, 30, 30, 30};
        for (int i = 0; i < salts.length; i++) {
            ColdCreamery x = Scenes.stocked(120, 60, 0, 0, 1, 0);
            Due.is("pack(0, 60, " + salts[i] + ")", x.pack(0, 60, salts[i]), colds[i]);
            Due.is("pack(0, 4, 0)", x.pack(0, 4, 0), Math.min(30, colds[i] + 1));
        }
    }

    private static void tubsAtMost() {
        Due.sentence("There are at most 6, numbered likewise");
        ColdCreamery x = new ColdCreamery();
        Due.index(x, "about(0, 0) before the first", () -> x.about(0, 0));
        for (int i = 0; i < 6; i++) {
            int next = i + 1;
            Due.is("tub()", x.tub(), i);
            Due.is("about(" + i + ", 0)", x.about(i, 0), 0);
            Due.index(x, "about(" + next + ", 0)", () -> x.about(next, 0));
        }
        Due.state(x, "the seventh tub()", () -> x.tub());
    }

    private static void tubsAtFirst() {
        Due.sentence("each has scoops, 0 (at first) to 60, and is soft by 0 (at first)");
        ColdCreamery x = Scenes.tubAt(10, 5, 40);
        Due.is("tub()", x.tub(), 2);
        Scenes.isTub(x, "a new one", 2, 0, 0, 0);
        x.pass(1);
        Scenes.isTub(x, "an hour later", 2, 0, 0, 0);
    }

    private static void tubsAtTheirLimits() {
        Due.sentence("each has scoops, 0 to 60, and is soft by 0 to 100");
        ColdCreamery x = Scenes.quiet(4, 1);
        Scenes.brewBy(x, 10, new int[] {20, 10, 1, 20}, new int[] {100, 100, 100, 50});
        Due.is("scoop(0, 0)", x.scoop(0, 0), 40);
        Due.is("scoop(1, 0)", x.scoop(1, 0), 60);
        Due.is("scoop(2, 0)", x.scoop(2, 0), 60);
        Scenes.isTub(x, "full", 0, 60, 0, 0);
        x.pass(1);
        Scenes.isTub(x, "an hour later", 0, 60, 0, 0);
        // the cream in churn 3 got firm by 9 more
        x.scoop(3, 0);
        Scenes.heatAllDays(x, 40);
        x.pass(9);
        Scenes.isTub(x, "nine hot hours later", 0, 60, 95, 0);
        x.pass(1);
        Scenes.isTub(x, "ten hot hours later", 0, 58, 100, 0);
        x.pass(1);
        Scenes.isTub(x, "eleven hot hours later", 0, 56, 100, 0);
    }
}
