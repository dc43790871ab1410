/** Creameries that several tests begin with. */
final class Scenes {
    private Scenes() {
    }

    /** A cellar with so much of all and with so many churns and tubs. */
    static ColdCreamery stocked(int ice, int salt, int cream, int cones, int churns, int tubs) {
        ColdCreamery x = new ColdCreamery();
        int[] many = {ice, salt, cream, cones};
        for (int what = 0; what < many.length; what++) {
            for (int left = many[what]; left > 0; left -= 300) {
                x.bring(what, Math.min(300, left));
            }
        }
        for (int i = 0; i < churns; i++) {
            x.churn();
        }
        for (int i = 0; i < tubs; i++) {
            x.tub();
        }
        return x;
    }

    static void heatAllDays(ColdCreamery x, int heat) {
        for (int day = 0; day < 7; day++) {
            x.setHeat(day, heat);
        }
    }

    /**
     * Cream in churn 0, firm by 10 an hour: in each hour ice and salt are brought
     * and packed at once, so that the churn is cold by 30 and the cellar keeps its ice.
     */
    static void firmCream(ColdCreamery x, int cream, int hours) {
        x.pour(0, cream);
        for (int i = 0; i < hours; i++) {
            hourInFreshBrine(x);
        }
    }

    static void hourInFreshBrine(ColdCreamery x) {
        x.bring(0, 40);
        x.bring(1, 20);
        x.pack(0, 40, 20);
        x.pass(1);
    }
}
