/** Promises 9 to 12: told, about, count, next. */
public final class WhatIsThereTest {
    public static void main(String[] args) {
        told();
        toldRefuses();
        about();
        aboutRefuses();
        count();
        countRefuses();
        next();
        nextOfEquallySoft();
        Due.end("WhatIsThereTest");
    }

    private static void told() {
        ColdCreamery x = Scenes.stocked(300, 300, 300, 0, 2, 0);
        x.pack(0, 24, 5);
        x.pour(0, 7);
        x.pack(1, 60, 14);
        x.pour(1, 3);
        int[][] want = {{11, 7, 0}, {29, 3, 0}};
        isTold(x, want);
        x.pass(1);
        int[][] later = {{8, 7, 3}, {26, 3, 9}};
        isTold(x, later);
    }

    private static void isTold(ColdCreamery x, int[][] want) {
        for (int churn = 0; churn < want.length; churn++) {
            for (int what = 0; what < 3; what++) {
                Due.is("told(" + churn + ", " + what + ")", x.told(churn, what), want[churn][what]);
            }
        }
    }

    private static void toldRefuses() {
        ColdCreamery x = Scenes.stocked(0, 0, 0, 0, 2, 4);
        int[] none = {-1, 2, 3, 4, Integer.MIN_VALUE, Integer.MAX_VALUE};
        for (int churn : none) {
            Due.index(x, "told(" + churn + ", 0)", () -> x.told(churn, 0));
        }
        int[] wrong = {-1, 3, Integer.MIN_VALUE, Integer.MAX_VALUE};
        for (int what : wrong) {
            Due.index(x, "told(0, " + what + ")", () -> x.told(0, what));
        }
    }

    private static void about() {
        ColdCreamery x = Scenes.stocked(0, 0, 20, 3, 1, 2);
        x.pass(4);
        Scenes.firmCream(x, 4, 6);
        x.scoop(0, 1);
        isAbout(x, 1, 8, 40, 0);
        x.pass(1);
        isAbout(x, 1, 5, 39, 3);
        isAbout(x, 0, 0, 0, 0);
    }

    private static void isAbout(ColdCreamery x, int tub, int scoops, int soft, int sold) {
        Due.is("about(" + tub + ", 0)", x.about(tub, 0), scoops);
        Due.is("about(" + tub + ", 1)", x.about(tub, 1), soft);
        Due.is("about(" + tub + ", 2)", x.about(tub, 2), sold);
    }

    private static void aboutRefuses() {
        ColdCreamery x = Scenes.stocked(0, 0, 0, 0, 4, 3);
        int[] none = {-1, 3, 5, 6, Integer.MIN_VALUE, Integer.MAX_VALUE};
        for (int tub : none) {
            Due.index(x, "about(" + tub + ", 0)", () -> x.about(tub, 0));
        }
        int[] wrong = {-1, 3, Integer.MIN_VALUE, Integer.MAX_VALUE};
        for (int what : wrong) {
            Due.index(x, "about(0, " + what + ")", () -> x.about(0, what));
        }
    }

    private static void count() {
        ColdCreamery x = Scenes.stocked(90, 80, 70, 23, 1, 3);
        x.setHeat(0, 15);
        x.setHeat(1, 7);
        x.pass(5);
        Scenes.firmCream(x, 10, 5);
        x.scoop(0, 2);
        x.pass(8);
        int[] want = {18, 15, 90 - 5 * 3, 80, 60, 0, 3 * 20 + 3, 0, 20, 4};
        // by heat 15 three come in each hour from 10 to 17: 24 for 20 scoops and 23 cones
        want[5] = 3;
        want[6] = 3 * 20;
        for (int what = 0; what < 10; what++) {
            Due.is("count(" + what + ")", x.count(what), want[what]);
        }
        x.pass(6);
        Due.is("count(0) the next day", x.count(0), 24);
        Due.is("count(1) the next day", x.count(1), 7);
        Due.is("count(9) the next day", x.count(9), 7);
    }

    private static void countRefuses() {
        ColdCreamery x = new ColdCreamery();
        int[] wrong = {-1, 10, Integer.MIN_VALUE, Integer.MAX_VALUE};
        for (int what : wrong) {
            Due.index(x, "count(" + what + ")", () -> x.count(what));
        }
    }

    private static void next() {
        ColdCreamery x = Scenes.stocked(0, 0, 60, 0, 1, 3);
        Due.is("next() of empty tubs", x.next(), -1);
        Scenes.firmCream(x, 2, 5);
        x.scoop(0, 2);
        Due.is("next(): the only one with scoops, no cones needed", x.next(), 2);
        Scenes.firmCream(x, 2, 9);
        x.scoop(0, 1);
        Due.is("next(): the less soft", x.next(), 1);
        Scenes.firmCream(x, 2, 5);
        x.scoop(0, 0);
        Due.is("next(): not the softer with a smaller number", x.next(), 1);
    }

    private static void nextOfEquallySoft() {
        ColdCreamery x = Scenes.stocked(0, 0, 60, 0, 2, 3);
        x.pour(0, 2);
        x.pour(1, 2);
        x.bring(0, 120);
        x.bring(1, 60);
        x.pack(0, 40, 20);
        x.pack(1, 40, 20);
        x.pass(4);
        x.bring(0, 120);
        x.bring(1, 60);
        x.pack(0, 40, 20);
        x.pack(1, 40, 20);
        x.pass(4);
        Due.is("told(0, 2)", x.told(0, 2), 68);
        x.scoop(0, 2);
        x.scoop(1, 1);
        Due.is("next(): of equally soft the smallest number", x.next(), 1);
    }
}
