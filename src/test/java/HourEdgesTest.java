/** The edges that the document names in its steps of an hour. */
public final class HourEdgesTest {
    public static void main(String[] args) {
        byTheHeatOfTheDay();
        creamByAThird();
        onlyOneThatHoldsSome();
        firmAtMost();
        thenTheCold();
        coldIsLess();
        onlyTubsThatHaveScoops();
        whenTubsSoften();
        iceAheadOfItsMelting();
        softerBy();
        softAtLeast();
        softAtMost();
        meltsWhenSoftByHundred();
        meltsDownToNothing();
        hoursOfPeople();
        peopleByHeat();
        leastSoftOfThoseWithScoops();
        ofSeveralTheSmallest();
        oneAfterTheOther();
        price();
        withoutACone();
        withoutAScoop();
        meltedIsNotSold();
        hoursOfMelting();
        iceIsLess();
        hourIsGreater();
        emptyTubIsNotSoft();
        Due.end("HourEdgesTest");
    }

    private static void byTheHeatOfTheDay() {
        Due.sentence("An hour goes like this, by the heat of the day");
        int[] nights = {23, 167};
        for (int hour : nights) {
            ColdCreamery x = Scenes.quiet(1, 0);
            x.setHeat(hour / 24, 40);
            Scenes.passTo(x, hour);
            Scenes.coolTo(x, 0, 20);
            x.pass(1);
            Due.is("told(0, 0) behind the hour " + hour, x.told(0, 0), 15);
            x.pass(1);
            Due.is("told(0, 0) behind the hour " + (hour + 1), x.told(0, 0), 14);
            ColdCreamery y = Scenes.quiet(1, 0);
            y.setHeat((hour + 1) / 24 % 7, 40);
            Scenes.passTo(y, hour);
            Scenes.coolTo(y, 0, 20);
            y.pass(2);
            Due.is("told(0, 0) behind both, the second one hot", y.told(0, 0), 14);
        }
    }

    private static void creamByAThird() {
        Due.sentence("the cream of one that holds some is firm by a third (cut) of its cold more");
        int[] colds = {0, 1, 2, 3, 4, 5, 6, 26, 27, 29, 30};
        int[] firms = {0, 0, 0, 1, 1, 1, 2, 8, 9, 9, 10};
        for (int i = 0; i < colds.length; i++) {
            ColdCreamery x = Scenes.quiet(1, 0);
            x.bring(2, 1);
            x.pour(0, 1);
            Scenes.coolTo(x, 0, colds[i]);
            x.pass(1);
            Due.is("told(0, 2) with a cold of " + colds[i], x.told(0, 2), firms[i]);
        }
    }

    private static void onlyOneThatHoldsSome() {
        Due.sentence("the cream of one that holds some");
        ColdCreamery x = Scenes.quiet(1, 0);
        Scenes.coolTo(x, 0, 30);
        x.pass(1);
        Due.is("told(0, 2) of an empty one", x.told(0, 2), 0);
        x.bring(2, 1);
        Due.is("pour(0, 1)", x.pour(0, 1), 0);
        x.pass(1);
        Due.is("told(0, 2) of one that holds 1", x.told(0, 2), 9);
    }

    private static void firmAtMost() {
        Due.sentence("firm by a third of its cold more (at most 100)");
        int[] firms = {90, 91, 99, 100};
        for (int firm : firms) {
            ColdCreamery x = Scenes.quiet(1, 0);
            Scenes.brewBy(x, 10, new int[] {1}, new int[] {firm});
            Due.is("told(0, 0)", x.told(0, 0), 29);
            x.pass(1);
            Due.is("told(0, 2), 9 more than " + firm, x.told(0, 2), Math.min(100, firm + 9));
            x.pass(1);
            Due.is("told(0, 2) an hour later", x.told(0, 2), 100);
        }
        ColdCreamery y = Scenes.quiet(1, 0);
        Scenes.brewBy(y, 10, new int[] {1}, new int[] {90});
        Scenes.coolTo(y, 0, 30);
        y.pass(1);
        Due.is("told(0, 2), 10 more than 90", y.told(0, 2), 100);
    }

    private static void thenTheCold() {
        Due.sentence("Then the cold of each churn is heat / 10 and 1 less");
        ColdCreamery x = Scenes.quiet(1, 0);
        Scenes.heatAllDays(x, 40);
        x.bring(2, 1);
        x.pour(0, 1);
        Scenes.coolTo(x, 0, 3);
        x.pass(1);
        Due.is("told(0, 2) by the cold before", x.told(0, 2), 1);
        Due.is("told(0, 0)", x.told(0, 0), 0);
    }

    private static void coldIsLess() {
        Due.sentence("the cold of each churn (also of an empty one) is heat / 10 and 1 less (at least 0)");
        int[] heats = {0, 9, 10, 19, 20, 29, 30, 39, 40};
        int[] less = {1, 1, 2, 2, 3, 3, 4, 4, 5};
        for (int i = 0; i < heats.length; i++) {
            for (int cold = 0; cold <= less[i] + 1; cold++) {
                ColdCreamery x = Scenes.quiet(2, 0);
                Scenes.heatAllDays(x, heats[i]);
                x.bring(2, 1);
                x.pour(0, 1);
                Scenes.coolTo(x, 0, cold);
                Scenes.coolTo(x, 1, cold);
                x.pass(1);
                int want = cold > less[i] ? 1 : 0;
                Due.is("told(0, 0) from " + cold + " at " + heats[i], x.told(0, 0), want);
                Due.is("told(1, 0), empty, from " + cold + " at " + heats[i], x.told(1, 0), want);
            }
        }
    }

    private static void onlyTubsThatHaveScoops() {
        Due.sentence("Tubs that have scoops");
        ColdCreamery x = Scenes.tubAt(10, 1, 40);
        Scenes.heatAllDays(x, 40);
        x.pass(1);
        Scenes.isTub(x, "with scoops", 0, 2, 46, 0);
        Scenes.isTub(x, "without scoops", 1, 0, 0, 0);
        x.pass(20);
        Scenes.isTub(x, "without scoops, 21 hours later", 1, 0, 0, 0);
        Due.is("next()", x.next(), -1);
    }

    private static void whenTubsSoften() {
        Due.sentence("with a heat of more than 20, and less than 100 ice in the cellar, each is "
            + "softer; otherwise 1 less");
        int[][] heatIceSoft = {
            {20, 0, 39}, {21, 0, 41}, {20, 99, 39}, {21, 99, 41}, {20, 100, 39}, {21, 100, 39},
            {40, 99, 46}, {40, 100, 39}, {40, 101, 39}, {40, 300, 39}, {0, 0, 39}, {0, 100, 39},
        };
        for (int[] row : heatIceSoft) {
            ColdCreamery x = Scenes.tubAt(6, 5, 40);
            Scenes.heatAllDays(x, row[0]);
            if (row[1] > 0) {
                x.bring(0, row[1]);
            }
            x.pass(1);
            Scenes.isTub(x, "heat " + row[0] + " and " + row[1] + " ice", 0, 10, row[2], 0);
        }
    }

    private static void iceAheadOfItsMelting() {
        Due.sentence("less than 100 ice in the cellar");
        ColdCreamery x = Scenes.tubAt(8, 5, 40);
        Scenes.heatAllDays(x, 40);
        x.bring(0, 100);
        x.pass(1);
        Due.is("count(2)", x.count(2), 92);
        Due.is("about(0, 1) in the hour in which 100 ice melts", x.about(0, 1), 39);
        x.pass(1);
        Due.is("about(0, 1) in the hour behind it", x.about(0, 1), 45);
    }

    private static void softerBy() {
        Due.sentence("each is softer by (heat - 20) / 4 and 1");
        int[] heats = {21, 23, 24, 27, 28, 31, 32, 35, 36, 39, 40};
        int[] softer = {1, 1, 2, 2, 3, 3, 4, 4, 5, 5, 6};
        for (int i = 0; i < heats.length; i++) {
            ColdCreamery x = Scenes.tubAt(6, 5, 40);
            Scenes.heatAllDays(x, heats[i]);
            x.pass(1);
            Due.is("about(0, 1) at heat " + heats[i], x.about(0, 1), 40 + softer[i]);
        }
    }

    private static void softAtLeast() {
        Due.sentence("otherwise 1 less soft (held at 0 to 100): 0");
        int[] softs = {0, 1, 2};
        for (int soft : softs) {
            ColdCreamery x = Scenes.tubAt(10, 5, soft);
            x.pass(1);
            Scenes.isTub(x, "an hour after " + soft, 0, 10, Math.max(0, soft - 1), 0);
            x.pass(3);
            Scenes.isTub(x, "four hours after " + soft, 0, 10, 0, 0);
        }
    }

    private static void softAtMost() {
        Due.sentence("each is softer (held at 0 to 100): 100");
        int[] softs = {45, 46, 47, 50};
        for (int soft : softs) {
            ColdCreamery x = Scenes.tubAt(10, 20, soft);
            Scenes.heatAllDays(x, 40);
            x.pass(8);
            Due.is("about(0, 1) eight hours after " + soft, x.about(0, 1), soft + 48);
            x.pass(1);
            Due.is("about(0, 1) nine hours after " + soft, x.about(0, 1), Math.min(100, soft + 54));
            x.pass(1);
            Due.is("about(0, 1) ten hours after " + soft, x.about(0, 1), 100);
        }
    }

    private static void meltsWhenSoftByHundred() {
        Due.sentence("One that is soft by 100 has 2 scoops less");
        ColdCreamery x = Scenes.twoTubsAt(10, 20, 45, 20, 46);
        Scenes.heatAllDays(x, 40);
        x.pass(9);
        Scenes.isTub(x, "soft by 99", 0, 20, 99, 0);
        Scenes.isTub(x, "soft by just 100", 1, 18, 100, 0);
        x.setHeat(0, 21);
        x.pass(1);
        Scenes.isTub(x, "from 99 by 1", 0, 18, 100, 0);
        Scenes.isTub(x, "still soft by 100", 1, 16, 100, 0);
        x.setHeat(0, 20);
        x.pass(1);
        Scenes.isTub(x, "from 100 down", 0, 18, 99, 0);
        Scenes.isTub(x, "from 100 down", 1, 16, 99, 0);
    }

    private static void meltsDownToNothing() {
        Due.sentence("has 2 scoops less (at least 0)");
        ColdCreamery x = Scenes.twoTubsAt(10, 4, 46, 2, 46);
        x.bring(3, 1);
        x.setHeat(0, 4);
        Due.is("pass(1)", x.pass(1), 3);
        Scenes.isTub(x, "one is sold", 0, 3, 45, 1);
        Scenes.heatAllDays(x, 40);
        x.pass(9);
        Scenes.isTub(x, "soft by 99", 0, 3, 99, 1);
        Scenes.isTub(x, "soft by 99", 1, 2, 99, 0);
        x.pass(1);
        Scenes.isTub(x, "two of three", 0, 1, 100, 1);
        Scenes.isTub(x, "two of two", 1, 0, 0, 0);
        x.pass(1);
        Scenes.isTub(x, "the last one", 0, 0, 0, 1);
        Scenes.isTub(x, "empty", 1, 0, 0, 0);
        Due.is("count(7)", x.count(7), 0);
        x.pass(1);
        Scenes.isTub(x, "empty", 0, 0, 0, 1);
    }

    private static void hoursOfPeople() {
        Due.sentence("In the hours 10 to 18 of a day people come");
        int[] days = {0, 1, 6, 7};
        for (int day : days) {
            ColdCreamery x = Scenes.quiet(0, 0);
            x.setHeat(day % 7, 4);
            Scenes.passTo(x, day * 24);
            int before = x.count(9);
            for (int hour = 0; hour < 24; hour++) {
                int want = hour < 10 ? 0 : Math.min(9, hour - 10);
                Due.is("day " + day + ", people before the hour " + hour, x.count(9) - before, want);
                x.pass(1);
            }
        }
    }

    private static void peopleByHeat() {
        Due.sentence("heat / 4 people come");
        int[] heats = {0, 1, 3, 4, 7, 8, 35, 36, 39, 40};
        int[] people = {0, 0, 0, 1, 1, 2, 8, 9, 9, 10};
        for (int i = 0; i < heats.length; i++) {
            ColdCreamery x = new ColdCreamery();
            x.setHeat(0, heats[i]);
            x.pass(11);
            Due.is("count(9) at heat " + heats[i], x.count(9), people[i]);
        }
    }

    private static void leastSoftOfThoseWithScoops() {
        Due.sentence("each takes a scoop out of the tub with scoops that is the least soft");
        ColdCreamery x = Scenes.twoTubsAt(10, 4, 31, 4, 30);
        x.bring(3, 5);
        x.setHeat(0, 4);
        x.pass(1);
        Scenes.isTub(x, "softer by 1", 0, 4, 30, 0);
        Scenes.isTub(x, "less soft by 1", 1, 3, 29, 1);
        ColdCreamery y = Scenes.quiet(1, 3);
        Scenes.brewBy(y, 10, new int[] {2}, new int[] {50});
        y.scoop(0, 1);
        y.bring(3, 5);
        y.setHeat(0, 4);
        y.pass(1);
        Scenes.isTub(y, "the only one with scoops", 1, 3, 49, 1);
        Scenes.isTub(y, "not soft, but without scoops", 0, 0, 0, 0);
        Scenes.isTub(y, "not soft, but without scoops", 2, 0, 0, 0);
    }

    private static void ofSeveralTheSmallest() {
        Due.sentence("of several the one with the smallest number");
        ColdCreamery x = Scenes.twoTubsAt(10, 2, 30, 2, 30);
        x.bring(3, 9);
        x.setHeat(0, 4);
        int[][] left = {{1, 2}, {0, 2}, {0, 1}, {0, 0}};
        for (int[] scoops : left) {
            x.pass(1);
            Due.is("about(0, 0)", x.about(0, 0), scoops[0]);
            Due.is("about(1, 0)", x.about(1, 0), scoops[1]);
        }
        // soft by 1 and 0 before the hour, and both by 0 in it
        ColdCreamery y = Scenes.twoTubsAt(10, 2, 1, 2, 0);
        y.bring(3, 9);
        y.setHeat(0, 4);
        y.pass(1);
        Due.is("about(0, 2), just as soft in this hour", y.about(0, 2), 1);
        Due.is("about(1, 2)", y.about(1, 2), 0);
    }

    private static void oneAfterTheOther() {
        Due.sentence("heat / 4 people come, one after the other");
        ColdCreamery x = Scenes.twoTubsAt(10, 4, 40, 2, 30);
        x.bring(3, 9);
        x.setHeat(0, 16);
        Due.is("pass(1)", x.pass(1), 12);
        Scenes.isTub(x, "two for the last two people", 0, 2, 39, 2);
        Scenes.isTub(x, "two for the first two people", 1, 0, 0, 2);
        Due.is("pass(1), two for four people", x.pass(1), 6);
        Due.is("count(9)", x.count(9), 2);
    }

    private static void price() {
        Due.sentence("and pays 3 coins, 2 if it is soft by 50 or more");
        int[] softs = {47, 48, 49, 50};
        int[] coins = {15, 15, 10, 10};
        for (int i = 0; i < softs.length; i++) {
            ColdCreamery x = Scenes.tubAt(10, 10, softs[i]);
            x.bring(3, 9);
            x.setHeat(0, 21);
            Due.is("pass(1), soft by " + softs[i] + " and 1", x.pass(1), coins[i]);
            Due.is("count(6)", x.count(6), coins[i]);
            Due.is("count(5)", x.count(5), 4);
        }
        ColdCreamery y = Scenes.tubAt(10, 10, 50);
        y.bring(3, 9);
        y.setHeat(0, 20);
        Due.is("pass(1), soft by 50 less 1", y.pass(1), 15);
        ColdCreamery z = Scenes.twoTubsAt(10, 4, 49, 4, 48);
        z.bring(3, 9);
        z.setHeat(0, 21);
        Due.is("pass(1), four by 49 and one by 50", z.pass(1), 14);
    }

    private static void withoutACone() {
        Due.sentence("without a cone this one is sent away");
        int[] cones = {0, 1, 2, 3, 4};
        for (int many : cones) {
            ColdCreamery x = Scenes.tubAt(10, 5, 30);
            if (many > 0) {
                x.bring(3, many);
            }
            x.setHeat(0, 12);
            int sold = Math.min(3, many);
            Due.is("pass(1) with " + many + " cones", x.pass(1), 3 * sold);
            Due.is("count(5) of " + many, x.count(5), many - sold);
            Due.is("count(9) with " + many + " cones", x.count(9), 3 - sold);
            Scenes.isTub(x, "with " + many + " cones", 0, 10 - sold, 29, sold);
        }
    }

    private static void withoutAScoop() {
        Due.sentence("without a scoop this one is sent away");
        int[] people = {1, 2, 3, 4};
        for (int many : people) {
            ColdCreamery x = Scenes.tubAt(10, 1, 30);
            x.bring(3, 9);
            x.setHeat(0, 4 * many);
            int sold = Math.min(2, many);
            Due.is("pass(1) with " + many + " people", x.pass(1), 3 * sold);
            Due.is("count(9) of " + many, x.count(9), many - sold);
            Due.is("count(5): those who are sent away take none", x.count(5), 9 - sold);
        }
        ColdCreamery y = new ColdCreamery();
        y.pass(11);
        Due.is("count(9) without a scoop and a cone", y.count(9), 5);
        y.bring(3, 9);
        y.tub();
        y.pass(1);
        Due.is("count(9) with an empty tub", y.count(9), 10);
        Due.is("count(5)", y.count(5), 9);
    }

    private static void meltedIsNotSold() {
        Due.sentence("2. Tubs.. 3. In the hours 10 to 18 of a day");
        int[] creams = {1, 2};
        for (int cream : creams) {
            ColdCreamery x = Scenes.tubAt(26, cream, 46);
            x.bring(3, 20);
            x.setHeat(1, 40);
            x.pass(8);
            Scenes.isTub(x, "before ten", 0, 2 * cream, 94, 0);
            Due.is("pass(1)", x.pass(1), 4 * (cream - 1));
            Scenes.isTub(x, "behind it", 0, 0, 0, 2 * (cream - 1));
            Due.is("count(9)", x.count(9), 10 - 2 * (cream - 1));
        }
    }

    private static void hoursOfMelting() {
        Due.sentence("In hours that can be divided by 4 the ice is less");
        ColdCreamery x = new ColdCreamery();
        x.bring(0, 300);
        for (int hour = 0; hour < 60; hour++) {
            Due.is("count(2) in the hour " + hour, x.count(2), 300 - 4 * ((hour + 3) / 4));
            x.pass(1);
        }
    }

    private static void iceIsLess() {
        Due.sentence("the ice is heat / 5 less (at least 0)");
        int[] heats = {0, 4, 5, 9, 10, 39, 40};
        int[] less = {0, 0, 1, 1, 2, 7, 8};
        for (int i = 0; i < heats.length; i++) {
            for (int ice = 0; ice <= 9; ice++) {
                ColdCreamery x = new ColdCreamery();
                x.setHeat(0, heats[i]);
                if (ice > 0) {
                    x.bring(0, ice);
                }
                x.pass(1);
                Due.is("count(2) of " + ice + " at " + heats[i], x.count(2), Math.max(0, ice - less[i]));
            }
        }
    }

    private static void hourIsGreater() {
        Due.sentence("The hour is 1 greater");
        ColdCreamery x = new ColdCreamery();
        for (int hour = 0; hour < 30; hour++) {
            Due.is("count(0)", x.count(0), hour);
            x.pass(1);
        }
    }

    private static void emptyTubIsNotSoft() {
        Due.sentence("A tub without scoops is soft by 0");
        ColdCreamery x = Scenes.quiet(3, 2);
        Scenes.brewBy(x, 10, new int[] {1, 1, 1}, new int[] {60, 60, 100});
        x.scoop(0, 0);
        x.scoop(1, 1);
        x.bring(3, 9);
        x.setHeat(0, 12);
        x.pass(1);
        Scenes.isTub(x, "sold out", 0, 0, 0, 2);
        Scenes.isTub(x, "one is left", 1, 1, 39, 1);
        x.scoop(2, 0);
        Scenes.isTub(x, "filled again", 0, 2, 0, 2);
    }
}
