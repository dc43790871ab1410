/** The edges that the document names in promises 1 to 12; what is refused stands in RefusalsTest. */
public final class CallsEdgesTest {
    public static void main(String[] args) {
        newObject();
        bringMany();
        bringLeavesOut();
        heatBefore();
        packNothing();
        packAllThatThereIs();
        packTheMost();
        pourAllThatThereIs();
        pourUntilFull();
        pourMakesLessFirm();
        pourOnWhatIsNotFirm();
        scoopGivesTwo();
        scoopLosesAboveSixty();
        scoopMakesSofter();
        scoopLeavesSoftness();
        scoopIntoSoftest();
        scoopEmptiesTheChurn();
        scoopOfJustFirm();
        toldOfEach();
        aboutOfEach();
        countOfEach();
        nextOfNone();
        nextOfSeveral();
        Due.end("CallsEdgesTest");
    }

    private static void newObject() {
        Due.sentence("Creates a cellar without churns and tubs, in the hour 0");
        ColdCreamery x = new ColdCreamery();
        Due.is("count(0)", x.count(0), 0);
        Due.index(x, "told(0, 0)", () -> x.told(0, 0));
        Due.index(x, "about(0, 0)", () -> x.about(0, 0));
        Due.is("count(7)", x.count(7), 0);
        Due.is("count(8)", x.count(8), 0);
        Due.is("count(9)", x.count(9), 0);
        Due.is("next()", x.next(), -1);
        Due.is("churn()", x.churn(), 0);
        Due.is("tub()", x.tub(), 0);
        ColdCreamery y = new ColdCreamery();
        Due.index(y, "told(0, 0) of another object", () -> y.told(0, 0));
        Due.is("churn() of another object", y.churn(), 0);
    }

    private static void bringMany() {
        Due.sentence("IllegalArgumentException if many is not 1 to 300");
        for (int what = 0; what < 4; what++) {
            int kind = what;
            ColdCreamery x = new ColdCreamery();
            Due.argument(x, "bring(" + what + ", 0)", () -> x.bring(kind, 0));
            Due.argument(x, "bring(" + what + ", 301)", () -> x.bring(kind, 301));
            Due.is("bring(" + what + ", 1)", x.bring(what, 1), 1);
            ColdCreamery y = new ColdCreamery();
            Due.is("bring(" + what + ", 300)", y.bring(what, 300), 300);
            Due.argument(y, "bring(" + what + ", 301) on 300", () -> y.bring(kind, 301));
        }
    }

    private static void bringLeavesOut() {
        Due.sentence("Returns how much there is then: what is too much is left out");
        ColdCreamery x = Scenes.stocked(899, 299, 298, 1, 0, 0);
        Due.is("bring(0, 2) on 899", x.bring(0, 2), 900);
        Due.is("bring(0, 300) on 900", x.bring(0, 300), 900);
        Due.is("bring(1, 1) on 299", x.bring(1, 1), 300);
        Due.is("bring(1, 1) on 300", x.bring(1, 1), 300);
        Due.is("bring(2, 3) on 298", x.bring(2, 3), 300);
        Due.is("bring(3, 300) on 1", x.bring(3, 300), 300);
        int[] there = {900, 300, 300, 300};
        for (int what = 0; what < 4; what++) {
            Due.is("count(" + (what + 2) + ")", x.count(what + 2), there[what]);
        }
        ColdCreamery y = Scenes.stocked(600, 0, 0, 0, 0, 0);
        Due.is("bring(0, 300) on 600", y.bring(0, 300), 900);
        ColdCreamery z = Scenes.stocked(601, 0, 0, 0, 0, 0);
        Due.is("bring(0, 300) on 601", z.bring(0, 300), 900);
    }

    private static void heatBefore() {
        Due.sentence("Returns the heat before");
        ColdCreamery x = new ColdCreamery();
        int[] heats = {20, 0, 0, 40, 40, 1, 39};
        int before = 20;
        for (int heat : heats) {
            Due.is("setHeat(0, " + heat + ")", x.setHeat(0, heat), before);
            Due.is("count(1)", x.count(1), heat);
            before = heat;
        }
        Due.is("setHeat(6, 5), the day that is not told by it", x.setHeat(6, 5), 20);
        Due.is("count(1)", x.count(1), 39);
        Due.is("setHeat(5, 5)", x.setHeat(5, 5), 20);
        Due.is("setHeat(6, 6)", x.setHeat(6, 6), 5);
    }

    private static void packNothing() {
        Due.sentence("ice or salt is 0 to 60: 0");
        ColdCreamery x = Scenes.stocked(0, 0, 0, 0, 1, 0);
        Due.is("pack(0, 0, 0) of an empty cellar", x.pack(0, 0, 0), 0);
        x.bring(0, 8);
        Due.is("pack(0, 8, 0) without salt", x.pack(0, 8, 0), 2);
        x.bring(1, 8);
        Due.is("pack(0, 0, 8) without ice", x.pack(0, 0, 8), 2);
        Due.is("count(3)", x.count(3), 0);
    }

    private static void packAllThatThereIs() {
        Due.sentence("IllegalStateException if there is not so much in the cellar");
        ColdCreamery x = Scenes.stocked(20, 10, 0, 0, 1, 0);
        Due.state(x, "pack(0, 21, 10)", () -> x.pack(0, 21, 10));
        Due.state(x, "pack(0, 20, 11)", () -> x.pack(0, 20, 11));
        Due.state(x, "pack(0, 21, 0)", () -> x.pack(0, 21, 0));
        Due.state(x, "pack(0, 0, 11)", () -> x.pack(0, 0, 11));
        Due.is("pack(0, 20, 10)", x.pack(0, 20, 10), 15);
        Due.is("count(2)", x.count(2), 0);
        Due.is("count(3)", x.count(3), 0);
        Due.state(x, "pack(0, 1, 0)", () -> x.pack(0, 1, 0));
        Due.state(x, "pack(0, 0, 1)", () -> x.pack(0, 0, 1));
    }

    private static void packTheMost() {
        Due.sentence("ice or salt is 0 to 60: 60");
        ColdCreamery x = Scenes.stocked(61, 61, 0, 0, 4, 0);
        Due.argument(x, "pack(3, 61, 0)", () -> x.pack(3, 61, 0));
        Due.argument(x, "pack(3, 0, 61)", () -> x.pack(3, 0, 61));
        Due.is("pack(3, 60, 60), the last churn", x.pack(3, 60, 60), 30);
        Due.is("count(2)", x.count(2), 1);
        Due.is("count(3)", x.count(3), 1);
        for (int churn = 0; churn < 3; churn++) {
            Due.is("told(" + churn + ", 0)", x.told(churn, 0), 0);
        }
    }

    private static void pourAllThatThereIs() {
        Due.sentence("IllegalStateException if there is not so much in the cellar");
        ColdCreamery x = Scenes.stocked(0, 0, 7, 0, 4, 0);
        Due.state(x, "pour(3, 8)", () -> x.pour(3, 8));
        Due.is("pour(3, 7)", x.pour(3, 7), 0);
        Due.is("count(4)", x.count(4), 0);
        Due.is("told(3, 1)", x.told(3, 1), 7);
        Due.state(x, "pour(0, 1)", () -> x.pour(0, 1));
    }

    private static void pourUntilFull() {
        Due.sentence("or it would hold more than 20");
        ColdCreamery x = Scenes.stocked(0, 0, 300, 0, 3, 0);
        Due.is("pour(0, 20)", x.pour(0, 20), 0);
        Due.state(x, "pour(0, 1) on 20", () -> x.pour(0, 1));
        Due.is("pour(1, 1)", x.pour(1, 1), 0);
        Due.state(x, "pour(1, 20) on 1", () -> x.pour(1, 20));
        Due.is("pour(1, 19) on 1", x.pour(1, 19), 0);
        Due.is("told(1, 1)", x.told(1, 1), 20);
        Due.argument(x, "pour(2, 0)", () -> x.pour(2, 0));
        Due.argument(x, "pour(2, 21)", () -> x.pour(2, 21));
        Due.is("count(4)", x.count(4), 260);
    }

    private static void pourMakesLessFirm() {
        Due.sentence("firm * what it held / what it holds then");
        int[][] heldFirmMoreThen = {
            {1, 100, 1, 50}, {1, 100, 19, 5}, {19, 100, 1, 95}, {10, 99, 1, 90}, {10, 51, 10, 25},
            {2, 50, 1, 33}, {1, 1, 1, 0}, {19, 1, 1, 0}, {3, 67, 17, 10}, {10, 50, 10, 25},
        };
        for (int[] row : heldFirmMoreThen) {
            ColdCreamery x = Scenes.quiet(1, 0);
            Scenes.brewBy(x, 10, new int[] {row[0]}, new int[] {row[1]});
            x.bring(2, row[2]);
            Due.is("pour(0, " + row[2] + ") on " + row[0] + ", firm by " + row[1], x.pour(0, row[2]), row[3]);
            Due.is("told(0, 2)", x.told(0, 2), row[3]);
            Due.is("told(0, 1)", x.told(0, 1), row[0] + row[2]);
        }
    }

    private static void pourOnWhatIsNotFirm() {
        Due.sentence("all that it holds is as much less firm as this is a part of it: of nothing");
        ColdCreamery x = Scenes.stocked(60, 15, 20, 0, 1, 1);
        x.pack(0, 60, 15);
        Due.is("pour(0, 1) into an empty one", x.pour(0, 1), 0);
        Due.is("pour(0, 19) on what is not firm", x.pour(0, 19), 0);
        ColdCreamery y = Scenes.quiet(1, 1);
        Scenes.brewBy(y, 10, new int[] {5}, new int[] {100});
        y.scoop(0, 0);
        y.bring(2, 5);
        Due.is("pour(0, 5) into one that is scooped out", y.pour(0, 5), 0);
    }

    private static void scoopGivesTwo() {
        Due.sentence("each cream gives 2 scoops");
        int[] creams = {1, 2, 19, 20};
        for (int cream : creams) {
            ColdCreamery x = Scenes.quiet(1, 1);
            Scenes.brewBy(x, 5, new int[] {cream}, new int[] {50});
            Due.is("scoop(0, 0) of " + cream, x.scoop(0, 0), 2 * cream);
            Due.is("count(7)", x.count(7), 2 * cream);
        }
    }

    private static void scoopLosesAboveSixty() {
        Due.sentence("what is more than 60 is lost");
        int[] creams = {9, 10, 11, 20};
        int[] scoops = {58, 60, 60, 60};
        for (int i = 0; i < creams.length; i++) {
            ColdCreamery x = Scenes.quiet(3, 2);
            Scenes.brewBy(x, 10, new int[] {20, creams[i], 1}, new int[] {100, 100, 100});
            Due.is("scoop(0, 1)", x.scoop(0, 1), 40);
            Due.is("scoop(1, 1) of " + creams[i] + " on 40", x.scoop(1, 1), scoops[i]);
            Due.is("count(7)", x.count(7), scoops[i]);
            Due.is("scoop(2, 1) of 1", x.scoop(2, 1), 60);
            Due.is("about(1, 0)", x.about(1, 0), 60);
            Due.is("told(2, 1)", x.told(2, 1), 0);
            Due.is("about(0, 0)", x.about(0, 0), 0);
        }
        // 40, of which one is sold, and 20 more are 59
        ColdCreamery y = Scenes.quiet(3, 1);
        Scenes.brewBy(y, 10, new int[] {20, 10, 1}, new int[] {100, 100, 100});
        y.scoop(0, 0);
        y.bring(3, 1);
        y.setHeat(0, 4);
        y.pass(1);
        Due.is("scoop(1, 0) on 39", y.scoop(1, 0), 59);
        Due.is("scoop(2, 0) on 59", y.scoop(2, 0), 60);
    }

    private static void scoopMakesSofter() {
        Due.sentence("soft by 100 less the firmness of the cream then, if it was less soft");
        int[] firms = {50, 51, 68, 69, 70, 71, 99, 100};
        for (int firm : firms) {
            ColdCreamery x = Scenes.quiet(2, 1);
            Scenes.brewBy(x, 10, new int[] {1, 1}, new int[] {firm, 70});
            Due.is("scoop(0, 0)", x.scoop(0, 0), 2);
            Due.is("about(0, 1) of an empty tub", x.about(0, 1), 100 - firm);
            Due.is("scoop(1, 0)", x.scoop(1, 0), 4);
            Due.is("about(0, 1), 30 on " + (100 - firm), x.about(0, 1), Math.max(30, 100 - firm));
        }
    }

    private static void scoopLeavesSoftness() {
        Due.sentence("otherwise it stays as soft as it was");
        int[] firms = {70, 71, 100};
        for (int firm : firms) {
            ColdCreamery x = Scenes.quiet(2, 1);
            Scenes.brewBy(x, 10, new int[] {1, 1}, new int[] {70, firm});
            x.scoop(0, 0);
            x.scoop(1, 0);
            Scenes.isTub(x, "firm by " + firm + " on soft by 30", 0, 4, 30, 0);
        }
        ColdCreamery y = Scenes.quiet(2, 1);
        Scenes.brewBy(y, 10, new int[] {20, 20}, new int[] {70, 100});
        y.scoop(0, 0);
        y.scoop(1, 0);
        Scenes.isTub(y, "filled to the top", 0, 60, 30, 0);
    }

    private static void scoopIntoSoftest() {
        Due.sentence("otherwise it stays as soft as it was: by 100");
        ColdCreamery x = Scenes.quiet(2, 1);
        Scenes.brewBy(x, 10, new int[] {10, 10}, new int[] {54, 100});
        x.scoop(0, 0);
        Scenes.heatAllDays(x, 40);
        x.pass(9);
        Scenes.isTub(x, "nine hot hours later", 0, 18, 100, 0);
        Due.is("scoop(1, 0)", x.scoop(1, 0), 38);
        Scenes.isTub(x, "with firm cream", 0, 38, 100, 0);
    }

    private static void scoopEmptiesTheChurn() {
        Due.sentence("The churn is empty, and firm by 0");
        ColdCreamery x = Scenes.quiet(2, 1);
        Scenes.brewBy(x, 10, new int[] {7, 3}, new int[] {80, 90});
        int cold = x.told(0, 0);
        x.scoop(0, 0);
        Due.is("told(0, 0): as cold as before", x.told(0, 0), cold);
        Due.is("told(0, 1)", x.told(0, 1), 0);
        Due.is("told(0, 2)", x.told(0, 2), 0);
        Due.is("told(1, 1) of the other", x.told(1, 1), 3);
        Due.is("told(1, 2) of the other", x.told(1, 2), 90);
        Due.is("count(4)", x.count(4), 0);
        x.pass(1);
        Due.is("told(0, 2) an hour later", x.told(0, 2), 0);
        Due.state(x, "scoop(0, 0) once more", () -> x.scoop(0, 0));
    }

    private static void scoopOfJustFirm() {
        Due.sentence("IllegalStateException if the churn holds none, or is firm by less than 50");
        int[] firms = {1, 48, 49};
        for (int firm : firms) {
            ColdCreamery x = Scenes.quiet(4, 6);
            Scenes.brewBy(x, 10, new int[] {1, 1, 1, 20}, new int[] {50, 50, 50, firm});
            Due.state(x, "scoop(3, 5), firm by " + firm, () -> x.scoop(3, 5));
            Due.is("scoop(2, 5), firm by 50", x.scoop(2, 5), 2);
            Due.state(x, "scoop(2, 5), empty", () -> x.scoop(2, 5));
        }
        ColdCreamery y = Scenes.stocked(0, 0, 20, 0, 1, 1);
        Due.state(y, "scoop(0, 0) of one that never held any", () -> y.scoop(0, 0));
        y.pour(0, 20);
        Due.state(y, "scoop(0, 0) of one that is not firm", () -> y.scoop(0, 0));
    }

    private static void toldOfEach() {
        Due.sentence("0 its cold, 1 the cream that it holds, 2 how firm this is");
        ColdCreamery x = Scenes.quiet(4, 0);
        int[] creams = {1, 20, 7, 13};
        int[] firms = {100, 51, 9, 10};
        Scenes.brewBy(x, 10, creams, firms);
        int[] colds = {29, 29, 26, 29};
        for (int churn = 0; churn < 4; churn++) {
            Due.is("told(" + churn + ", 0)", x.told(churn, 0), colds[churn]);
            Due.is("told(" + churn + ", 1)", x.told(churn, 1), creams[churn]);
            Due.is("told(" + churn + ", 2)", x.told(churn, 2), firms[churn]);
        }
    }

    private static void aboutOfEach() {
        Due.sentence("0 its scoops, 1 how soft it is, 2 scoops that were sold out of it in all");
        ColdCreamery x = Scenes.quiet(4, 6);
        Scenes.brewBy(x, 10, new int[] {4, 5, 20, 20}, new int[] {90, 80, 60, 60});
        x.scoop(0, 0);
        x.scoop(1, 5);
        x.scoop(2, 3);
        x.scoop(3, 3);
        x.bring(3, 100);
        x.setHeat(0, 20);
        x.pass(2);
        Scenes.isTub(x, "the first", 0, 0, 0, 8);
        Scenes.isTub(x, "the last", 5, 8, 18, 2);
        Scenes.isTub(x, "the full one", 3, 60, 38, 0);
        Scenes.isTub(x, "an empty one", 4, 0, 0, 0);
    }

    private static void countOfEach() {
        Due.sentence("7 scoops of all tubs, 8 scoops that were sold in all, 9 people who were sent away in all");
        ColdCreamery x = Scenes.quiet(4, 6);
        Scenes.brewBy(x, 10, new int[] {1, 2, 3, 20}, new int[] {90, 80, 60, 60});
        x.scoop(0, 0);
        x.scoop(1, 5);
        x.scoop(2, 2);
        x.scoop(3, 3);
        Due.is("count(7)", x.count(7), 52);
        x.bring(3, 5);
        x.setHeat(0, 16);
        x.pass(2);
        Due.is("count(7), five less", x.count(7), 47);
        Due.is("count(8)", x.count(8), 5);
        Due.is("count(9)", x.count(9), 3);
        Due.is("about(0, 2) and about(5, 2)", x.about(0, 2) * 10 + x.about(5, 2), 23);
        Due.is("count(6)", x.count(6), 15);
        Due.is("count(0)", x.count(0), 12);
        Due.is("count(1)", x.count(1), 16);
        for (int what = 2; what <= 5; what++) {
            Due.is("count(" + what + ")", x.count(what), 0);
        }
    }

    private static void nextOfNone() {
        Due.sentence("-1 if there is none");
        ColdCreamery x = new ColdCreamery();
        Due.is("next() without tubs", x.next(), -1);
        x.tub();
        Due.is("next() with an empty tub", x.next(), -1);
        ColdCreamery y = Scenes.tubAt(10, 1, 30);
        Due.is("next() with 2 scoops", y.next(), 0);
        y.bring(3, 1);
        y.setHeat(0, 4);
        y.pass(1);
        Due.is("next() with 1 scoop", y.next(), 0);
        y.bring(3, 1);
        y.pass(1);
        Due.is("next() when all is sold", y.next(), -1);
        ColdCreamery z = Scenes.tubAt(10, 1, 46);
        Scenes.heatAllDays(z, 40);
        z.pass(8);
        Due.is("next() at soft by 94", z.next(), 0);
        z.pass(1);
        Due.is("next() when all is melted", z.next(), -1);
    }

    private static void nextOfSeveral() {
        Due.sentence("Returns the tub out of which the next scoop would be sold");
        ColdCreamery x = Scenes.quiet(4, 6);
        Scenes.brewBy(x, 10, new int[] {2, 2, 2, 2}, new int[] {60, 61, 60, 60});
        x.scoop(0, 5);
        Due.is("next(), the last tub", x.next(), 5);
        x.scoop(2, 3);
        Due.is("next() of 3 and 5, equally soft", x.next(), 3);
        x.scoop(1, 4);
        Due.is("next(), less soft by 1", x.next(), 4);
        x.scoop(3, 4);
        Due.is("next() of 3, 4 and 5, equally soft", x.next(), 3);
        long before = x.digest();
        x.next();
        Due.is("digest() behind next()", x.digest(), before);
        ColdCreamery y = Scenes.tubAt(10, 20, 46);
        Scenes.heatAllDays(y, 40);
        y.pass(9);
        Due.is("about(0, 1)", y.about(0, 1), 100);
        Due.is("next(), soft by 100", y.next(), 0);
    }
}
