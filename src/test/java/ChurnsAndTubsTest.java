/** Promises 4 to 8: churn, tub, pack, pour, scoop. */
public final class ChurnsAndTubsTest {
    public static void main(String[] args) {
        churn();
        tub();
        pack();
        packSaltThatCounts();
        packTakesOutOfTheCellar();
        packRefuses();
        pour();
        pourRefuses();
        scoop();
        scoopIntoSofterTub();
        scoopOverflows();
        scoopRefuses();
        Due.end("ChurnsAndTubsTest");
    }

    private static void churn() {
        ColdCreamery x = new ColdCreamery();
        for (int i = 0; i < 4; i++) {
            Due.is("churn()", x.churn(), i);
            for (int what = 0; what < 3; what++) {
                Due.is("told(" + i + ", " + what + ")", x.told(i, what), 0);
            }
        }
        Due.state(x, "the fifth churn()", () -> x.churn());
        Due.state(x, "the sixth churn()", () -> x.churn());
        Due.index(x, "told(4, 0)", () -> x.told(4, 0));
    }

    private static void tub() {
        ColdCreamery x = new ColdCreamery();
        for (int i = 0; i < 6; i++) {
            Due.is("tub()", x.tub(), i);
            for (int what = 0; what < 3; what++) {
                Due.is("about(" + i + ", " + what + ")", x.about(i, what), 0);
            }
        }
        Due.state(x, "the seventh tub()", () -> x.tub());
        Due.index(x, "about(6, 0)", () -> x.about(6, 0));
    }

    private static void pack() {
        ColdCreamery x = Scenes.stocked(900, 300, 0, 0, 2, 0);
        Due.is("pack(0, 0, 0)", x.pack(0, 0, 0), 0);
        Due.is("pack(0, 3, 60): too little ice", x.pack(0, 3, 60), 0);
        Due.is("pack(0, 4, 0)", x.pack(0, 4, 0), 1);
        Due.is("pack(0, 7, 1)", x.pack(0, 7, 1), 3);
        Due.is("told(0, 0)", x.told(0, 0), 3);
        Due.is("told(1, 0)", x.told(1, 0), 0);
        Due.is("pack(1, 60, 15)", x.pack(1, 60, 15), 30);
        Due.is("pack(1, 60, 60)", x.pack(1, 60, 60), 30);
        Due.is("pack(0, 60, 11)", x.pack(0, 60, 11), 29);
        Due.is("pack(0, 4, 0)", x.pack(0, 4, 0), 30);
        Due.is("pack(0, 4, 0)", x.pack(0, 4, 0), 30);
    }

    private static void packSaltThatCounts() {
        int[] salts = {0, 1, 9, 10, 11, 60};
        int[] colds = {5, 6, 14, 15, 15, 15};
        for (int i = 0; i < salts.length; i++) {
            ColdCreamery x = Scenes.stocked(60, 60, 0, 0, 1, 0);
            Due.is("pack(0, 23, " + salts[i] + ")", x.pack(0, 23, salts[i]), colds[i]);
        }
    }

    private static void packTakesOutOfTheCellar() {
        ColdCreamery x = Scenes.stocked(100, 50, 10, 10, 1, 0);
        x.pack(0, 60, 45);
        Due.is("count(2)", x.count(2), 40);
        Due.is("count(3), with salt that does not count", x.count(3), 5);
        Due.is("count(4)", x.count(4), 10);
        Due.is("pack(0, 40, 5): all that there is", x.pack(0, 40, 5), 30);
        Due.is("count(2)", x.count(2), 0);
        Due.is("count(3)", x.count(3), 0);
    }

    private static void packRefuses() {
        ColdCreamery x = Scenes.stocked(20, 20, 0, 0, 1, 0);
        int[] none = {-1, 1, 4, Integer.MIN_VALUE, Integer.MAX_VALUE};
        for (int churn : none) {
            Due.index(x, "pack(" + churn + ", 4, 4)", () -> x.pack(churn, 4, 4));
            Due.index(x, "pack(" + churn + ", 61, 61)", () -> x.pack(churn, 61, 61));
        }
        int[] wrong = {-1, 61, Integer.MIN_VALUE, Integer.MAX_VALUE};
        for (int many : wrong) {
            Due.argument(x, "pack(0, " + many + ", 0)", () -> x.pack(0, many, 0));
            Due.argument(x, "pack(0, 0, " + many + ")", () -> x.pack(0, 0, many));
            Due.argument(x, "pack(0, 60, " + many + ")", () -> x.pack(0, 60, many));
        }
        Due.state(x, "pack(0, 21, 0)", () -> x.pack(0, 21, 0));
        Due.state(x, "pack(0, 0, 21)", () -> x.pack(0, 0, 21));
        Due.state(x, "pack(0, 20, 60)", () -> x.pack(0, 20, 60));
    }

    private static void pour() {
        ColdCreamery x = Scenes.stocked(900, 300, 60, 0, 2, 0);
        Due.is("pour(0, 1)", x.pour(0, 1), 0);
        Due.is("count(4)", x.count(4), 59);
        Due.is("told(0, 1)", x.told(0, 1), 1);
        x.pack(0, 60, 15);
        Due.is("pour(0, 9)", x.pour(0, 9), 0);
        x.pass(1);
        Due.is("told(0, 2)", x.told(0, 2), 10);
        Due.is("pour(0, 3)", x.pour(0, 3), 10 * 10 / 13);
        Due.is("told(0, 2)", x.told(0, 2), 7);
        Due.is("pour(0, 7): full", x.pour(0, 7), 7 * 13 / 20);
        Due.is("told(0, 1)", x.told(0, 1), 20);
        Due.is("told(0, 2)", x.told(0, 2), 4);
        Due.is("pour(1, 20)", x.pour(1, 20), 0);
        Due.is("count(4)", x.count(4), 20);
    }

    private static void pourRefuses() {
        ColdCreamery x = Scenes.stocked(0, 0, 25, 0, 2, 0);
        int[] none = {-1, 2, 4, Integer.MIN_VALUE, Integer.MAX_VALUE};
        for (int churn : none) {
            Due.index(x, "pour(" + churn + ", 1)", () -> x.pour(churn, 1));
            Due.index(x, "pour(" + churn + ", 0)", () -> x.pour(churn, 0));
        }
        int[] wrong = {0, -1, 21, Integer.MIN_VALUE, Integer.MAX_VALUE};
        for (int cream : wrong) {
            Due.argument(x, "pour(0, " + cream + ")", () -> x.pour(0, cream));
        }
        x.pour(0, 15);
        Due.state(x, "pour(0, 6): too full", () -> x.pour(0, 6));
        Due.state(x, "pour(1, 11): not so much", () -> x.pour(1, 11));
        Due.argument(x, "pour(0, 21)", () -> x.pour(0, 21));
        Due.is("pour(0, 5): just full", x.pour(0, 5), 0);
        Due.is("pour(1, 5): all that there is", x.pour(1, 5), 0);
        Due.is("count(4)", x.count(4), 0);
        Due.state(x, "pour(1, 1): nothing left", () -> x.pour(1, 1));
    }

    private static void scoop() {
        ColdCreamery x = Scenes.stocked(900, 300, 60, 0, 1, 2);
        Scenes.firmCream(x, 7, 5);
        Due.is("told(0, 2)", x.told(0, 2), 50);
        Due.is("scoop(0, 1)", x.scoop(0, 1), 14);
        Due.is("about(1, 0)", x.about(1, 0), 14);
        Due.is("about(1, 1)", x.about(1, 1), 50);
        Due.is("about(1, 2)", x.about(1, 2), 0);
        Due.is("about(0, 0)", x.about(0, 0), 0);
        Due.is("about(0, 1)", x.about(0, 1), 0);
        Due.is("told(0, 1)", x.told(0, 1), 0);
        Due.is("told(0, 2)", x.told(0, 2), 0);
        Due.is("told(0, 0): the brine stays", x.told(0, 0), 27);
    }

    private static void scoopIntoSofterTub() {
        ColdCreamery x = Scenes.stocked(0, 0, 60, 0, 1, 1);
        Scenes.heatAllDays(x, 0);
        Scenes.firmCream(x, 3, 8);
        Due.is("scoop(0, 0) of 80 firm", x.scoop(0, 0), 6);
        Due.is("about(0, 1)", x.about(0, 1), 20);
        Scenes.firmCream(x, 2, 5);
        Due.is("about(0, 1) five hours later", x.about(0, 1), 15);
        Due.is("scoop(0, 0) of 50 firm", x.scoop(0, 0), 10);
        Due.is("about(0, 1): as soft as the softer", x.about(0, 1), 50);
        Scenes.firmCream(x, 1, 7);
        Due.is("told(0, 2)", x.told(0, 2), 70);
        Due.is("about(0, 1)", x.about(0, 1), 43);
        Due.is("scoop(0, 0) of 70 firm", x.scoop(0, 0), 12);
        Due.is("about(0, 1): stays as soft as it was", x.about(0, 1), 43);
    }

    private static void scoopOverflows() {
        ColdCreamery x = Scenes.stocked(0, 0, 60, 0, 1, 1);
        Scenes.heatAllDays(x, 0);
        int[] cream = {20, 9, 20};
        int[] scoops = {40, 58, 60};
        for (int i = 0; i < cream.length; i++) {
            Scenes.firmCream(x, cream[i], 5);
            Due.is("scoop(0, 0) of " + cream[i], x.scoop(0, 0), scoops[i]);
        }
        Due.is("count(7)", x.count(7), 60);
    }

    private static void scoopRefuses() {
        ColdCreamery x = Scenes.stocked(900, 300, 60, 0, 2, 1);
        int[] none = {-1, 2, 4, Integer.MIN_VALUE, Integer.MAX_VALUE};
        for (int number : none) {
            Due.index(x, "scoop(" + number + ", 0)", () -> x.scoop(number, 0));
            Due.index(x, "scoop(0, " + number + ")", () -> x.scoop(0, number));
        }
        Due.index(x, "scoop(0, 1)", () -> x.scoop(0, 1));
        Due.state(x, "scoop(0, 0) of an empty one", () -> x.scoop(0, 0));
        x.pour(0, 5);
        x.pack(0, 60, 12);
        x.pass(1);
        for (int i = 0; i < 4; i++) {
            Scenes.hourInFreshBrine(x);
        }
        Due.is("told(0, 2)", x.told(0, 2), 49);
        Due.state(x, "scoop(0, 0) of 49 firm", () -> x.scoop(0, 0));
        x.pass(1);
        Due.is("told(0, 2)", x.told(0, 2), 58);
        Due.is("scoop(0, 0) of 58 firm", x.scoop(0, 0), 10);
        Due.is("about(0, 1)", x.about(0, 1), 42);
        Due.state(x, "scoop(0, 0) of what is empty again", () -> x.scoop(0, 0));
    }
}
