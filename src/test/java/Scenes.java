/** Creameries that several tests begin with. */
final class Scenes {
    private Scenes() {
    }

    /** A cellar with so much of all and with so many churns and tubs. */
    static ColdCreamery stocked(int ice, int salt, int cream, int cones, int churns, int tubs) {
        ColdCreamery x = new ColdCreamery();
        int[] many = {ice, salt, cream, cones};
        for (int what = 0; what < many.length; what++) {
            for (int left = many[what]; left > 0; left -= 300) {
                x.bring(what, Math.min(300, left));
            }
        }
        for (int i = 0; i < churns; i++) {
            x.churn();
        }
        for (int i = 0; i < tubs; i++) {
            x.tub();
        }
        return x;
    }

    static void heatAllDays(ColdCreamery x, int heat) {
        for (int day = 0; day < 7; day++) {
            x.setHeat(day, heat);
        }
    }

    /**
     * Cream in churn 0, firm by 10 an hour: in each hour ice and salt are brought
     * and packed at once, so that the churn is cold by 30 and the cellar keeps its ice.
     */
    static void firmCream(ColdCreamery x, int cream, int hours) {
        x.pour(0, cream);
        for (int i = 0; i < hours; i++) {
            hourInFreshBrine(x);
        }
    }

    static void hourInFreshBrine(ColdCreamery x) {
        x.bring(0, 40);
        x.bring(1, 20);
        x.pack(0, 40, 20);
        x.pass(1);
    }

    /** So many churns and tubs where the heat is 0 on all days: nothing melts, and nobody comes. */
    static ColdCreamery quiet(int churns, int tubs) {
        ColdCreamery x = stocked(0, 0, 0, 0, churns, tubs);
        heatAllDays(x, 0);
        return x;
    }

    static void passTo(ColdCreamery x, int hour) {
        int left = hour - x.count(0);
        for (; left > 168; left -= 168) {
            x.pass(168);
        }
        if (left > 0) {
            x.pass(left);
        }
    }

    /** Makes a churn so cold, with ice and salt that are brought for it alone. */
    static void coolTo(ColdCreamery x, int churn, int cold) {
        int more = cold - x.told(churn, 0);
        if (more <= 0) {
            return;
        }
        int n = (more + 2) / 3;
        x.bring(0, 4 * n);
        if (more > n) {
            x.bring(1, more - n);
        }
        x.pack(churn, 4 * n, more - n);
    }

    /**
     * Churn by churn so much cream, firm by so much, all of them at that hour.
     * The creamery is a quiet one, and its churns are empty and not cold.
     */
    static void brewBy(ColdCreamery x, int hour, int[] creams, int[] firms) {
        int hours = 0;
        for (int firm : firms) {
            hours = Math.max(hours, parts(firm));
        }
        passTo(x, hour - hours);
        for (int churn = 0; churn < creams.length; churn++) {
            x.bring(2, creams[churn]);
            x.pour(churn, creams[churn]);
        }
        for (int left = hours; left > 0; left--) {
            for (int churn = 0; churn < firms.length; churn++) {
                coolTo(x, churn, 3 * gain(firms[churn], left));
            }
            x.pass(1);
        }
        Due.is("brewed: count(0)", x.count(0), hour);
        for (int churn = 0; churn < firms.length; churn++) {
            Due.is("brewed: told(" + churn + ", 2)", x.told(churn, 2), firms[churn]);
        }
    }

    private static int parts(int firm) {
        return (firm + 9) / 10;
    }

    /** What is no whole ten comes first, as a churn can be made colder at once, but not warmer. */
    private static int gain(int firm, int hoursLeft) {
        int parts = parts(firm);
        if (hoursLeft > parts) {
            return 0;
        }
        return hoursLeft == parts ? firm - 10 * (parts - 1) : 10;
    }

    /** Quiet, at that hour: tub 0 with 2 scoops for each cream, soft by that much (50 at most); no cones. */
    static ColdCreamery tubAt(int hour, int cream, int soft) {
        ColdCreamery x = quiet(2, 2);
        brewBy(x, hour, new int[] {cream}, new int[] {100 - soft});
        x.scoop(0, 0);
        Due.is("tubAt: about(0, 1)", x.about(0, 1), soft);
        return x;
    }

    /** Quiet, at that hour: tubs 0 and 1 with so many scoops (even numbers), soft by that much (50 at most). */
    static ColdCreamery twoTubsAt(int hour, int scoops0, int soft0, int scoops1, int soft1) {
        ColdCreamery x = quiet(2, 2);
        brewBy(x, hour, new int[] {scoops0 / 2, scoops1 / 2}, new int[] {100 - soft0, 100 - soft1});
        x.scoop(0, 0);
        x.scoop(1, 1);
        return x;
    }

    static void isTub(ColdCreamery x, String when, int tub, int scoops, int soft, int sold) {
        Due.is(when + ": about(" + tub + ", 0)", x.about(tub, 0), scoops);
        Due.is(when + ": about(" + tub + ", 1)", x.about(tub, 1), soft);
        Due.is(when + ": about(" + tub + ", 2)", x.about(tub, 2), sold);
    }
}
