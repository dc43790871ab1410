/** Promise 13: pass, and with it what an hour does. */
public final class HoursTest {
    public static void main(String[] args) {
        passRefuses();
        manyHoursAreAsManyTimesOne();
        creamGetsFirm();
        coldGetsLess();
        tubsStayCool();
        tubsSoften();
        iceCoolsFromHundredOn();
        softScoopsMelt();
        lastScoopMelts();
        peopleComeFromTenToEighteen();
        peopleByTheHeat();
        priceOfSoftScoops();
        leastSoftTubSellsFirst();
        withoutConesAllAreSentAway();
        iceMelts();
        emptyTubIsNotSoft();
        softestScoopsAreSold();
        fullCellar();
        Due.end("HoursTest");
    }

    private static void passRefuses() {
        ColdCreamery x = Scenes.stocked(10, 10, 10, 10, 1, 1);
        int[] wrong = {0, -1, 169, Integer.MIN_VALUE, Integer.MAX_VALUE};
        for (int hours : wrong) {
            Due.argument(x, "pass(" + hours + ")", () -> x.pass(hours));
        }
        Due.is("pass(1)", x.pass(1), 0);
        Due.is("count(0)", x.count(0), 1);
        Due.is("pass(168)", x.pass(168), 0);
        Due.is("count(0)", x.count(0), 169);
    }

    private static ColdCreamery shop(int cream, int cones, int heat) {
        ColdCreamery x = Scenes.stocked(0, 0, 60, cones, 1, 2);
        x.pass(5);
        Scenes.firmCream(x, cream, 5);
        x.scoop(0, 0);
        x.setHeat(0, heat);
        return x;
    }

    private static void manyHoursAreAsManyTimesOne() {
        ColdCreamery once = shop(20, 60, 36);
        ColdCreamery often = shop(20, 60, 36);
        int coins = 0;
        for (int i = 0; i < 168; i++) {
            coins += often.pass(1);
        }
        Due.is("pass(168)", once.pass(168), coins);
        Due.is("digest() after pass(168)", once.digest(), often.digest());
    }

    private static void creamGetsFirm() {
        ColdCreamery x = Scenes.stocked(300, 300, 20, 0, 2, 0);
        x.pour(0, 5);
        x.pack(0, 20, 10);
        x.pack(1, 20, 10);
        int[] firm = {5, 9, 12, 14, 15, 15};
        for (int hour = 0; hour < firm.length; hour++) {
            x.pass(1);
            Due.is("told(0, 2) after hour " + hour, x.told(0, 2), firm[hour]);
            Due.is("told(1, 2) of an empty churn", x.told(1, 2), 0);
            Due.is("told(1, 0) of an empty churn", x.told(1, 0), x.told(0, 0));
        }
        Scenes.firmCream(x, 1, 9);
        Due.is("told(0, 2): firm by 100 at most", x.told(0, 2), 100);
    }

    private static void coldGetsLess() {
        int[] heats = {0, 9, 10, 19, 20, 29, 30, 39, 40};
        int[] less = {1, 1, 2, 2, 3, 3, 4, 4, 5};
        for (int i = 0; i < heats.length; i++) {
            ColdCreamery x = Scenes.stocked(60, 60, 0, 0, 1, 0);
            x.setHeat(0, heats[i]);
            x.pack(0, 60, 1);
            x.pass(1);
            Due.is("told(0, 0) at heat " + heats[i], x.told(0, 0), 16 - less[i]);
            x.pass(23);
            Due.is("told(0, 0): at least 0", x.told(0, 0), 0);
        }
    }

    /** A tub of 12 scoops, soft by 50, in a cellar without ice, where it is 5 o'clock. */
    private static ColdCreamery tubOfFifty() {
        ColdCreamery x = Scenes.stocked(0, 0, 60, 0, 1, 1);
        Scenes.firmCream(x, 6, 5);
        x.scoop(0, 0);
        return x;
    }

    private static void tubsStayCool() {
        ColdCreamery x = tubOfFifty();
        x.pass(1);
        Due.is("about(0, 1) at heat 20, without ice", x.about(0, 1), 49);
        x.pass(48);
        Due.is("about(0, 1)", x.about(0, 1), 1);
        x.pass(1);
        Due.is("about(0, 1)", x.about(0, 1), 0);
        x.pass(1);
        Due.is("about(0, 1): at least 0", x.about(0, 1), 0);
        Due.is("about(0, 0)", x.about(0, 0), 12);
    }

    private static void tubsSoften() {
        int[] heats = {0, 20, 21, 23, 24, 27, 28, 39, 40};
        int[] softer = {-1, -1, 1, 1, 2, 2, 3, 5, 6};
        for (int i = 0; i < heats.length; i++) {
            ColdCreamery x = tubOfFifty();
            x.setHeat(0, heats[i]);
            x.pass(2);
            Due.is("about(0, 1) at heat " + heats[i], x.about(0, 1), 50 + 2 * softer[i]);
        }
    }

    private static void iceCoolsFromHundredOn() {
        ColdCreamery x = tubOfFifty();
        x.setHeat(0, 40);
        x.bring(0, 99);
        x.pass(1);
        Due.is("about(0, 1) with 99 ice", x.about(0, 1), 56);
        x.bring(0, 1);
        x.pass(2);
        Due.is("about(0, 1) with 100 ice", x.about(0, 1), 54);
        x.pass(1);
        Due.is("about(0, 1): the ice melts behind the tubs", x.about(0, 1), 53);
        Due.is("count(2)", x.count(2), 92);
        x.pass(1);
        Due.is("about(0, 1) with 92 ice", x.about(0, 1), 59);
    }

    private static void softScoopsMelt() {
        ColdCreamery x = tubOfFifty();
        Scenes.heatAllDays(x, 40);
        x.pass(8);
        Due.is("about(0, 1)", x.about(0, 1), 98);
        Due.is("about(0, 0)", x.about(0, 0), 12);
        x.pass(1);
        Due.is("about(0, 1): at most 100", x.about(0, 1), 100);
        Due.is("about(0, 0): 2 less", x.about(0, 0), 10);
        x.pass(1);
        Due.is("about(0, 0): 2 less", x.about(0, 0), 8);
        x.bring(0, 300);
        x.pass(1);
        Due.is("about(0, 1) with ice again", x.about(0, 1), 99);
        Due.is("about(0, 0) with ice again", x.about(0, 0), 8);
        ColdCreamery y = tubOfFifty();
        Scenes.heatAllDays(y, 40);
        y.pass(13);
        Due.is("about(0, 0)", y.about(0, 0), 2);
        Due.is("about(0, 1)", y.about(0, 1), 100);
        y.pass(1);
        Due.is("about(0, 0) of the melted tub", y.about(0, 0), 0);
        Due.is("about(0, 1) of the melted tub", y.about(0, 1), 0);
        Due.is("about(0, 2) of the melted tub", y.about(0, 2), 0);
    }

    private static void lastScoopMelts() {
        ColdCreamery x = shop(1, 1, 4);
        x.pass(1);
        Due.is("about(0, 0)", x.about(0, 0), 1);
        Scenes.heatAllDays(x, 40);
        x.pass(8);
        Due.is("about(0, 1)", x.about(0, 1), 97);
        Due.is("about(0, 0)", x.about(0, 0), 1);
        x.pass(1);
        Due.is("about(0, 0): at least 0", x.about(0, 0), 0);
        Due.is("about(0, 1)", x.about(0, 1), 0);
        Due.is("count(7)", x.count(7), 0);
    }

    private static void peopleComeFromTenToEighteen() {
        ColdCreamery x = new ColdCreamery();
        int away = 0;
        for (int hour = 0; hour < 72; hour++) {
            x.pass(1);
            away += hour % 24 >= 10 && hour % 24 <= 18 ? 5 : 0;
            Due.is("count(9) after hour " + hour, x.count(9), away);
        }
        Due.is("nine hours of five people on three days", away, 135);
    }

    private static void peopleByTheHeat() {
        for (int heat = 0; heat <= 40; heat++) {
            ColdCreamery x = new ColdCreamery();
            x.pass(10);
            x.setHeat(0, heat);
            x.pass(1);
            Due.is("count(9) at heat " + heat, x.count(9), heat / 4);
        }
    }

    private static void priceOfSoftScoops() {
        ColdCreamery x = shop(20, 60, 20);
        Due.is("pass(1), soft by 49", x.pass(1), 15);
        Due.is("about(0, 0)", x.about(0, 0), 35);
        Due.is("about(0, 2)", x.about(0, 2), 5);
        Due.is("count(5)", x.count(5), 55);
        Due.is("count(6)", x.count(6), 15);
        x.setHeat(0, 21);
        Due.is("pass(1), soft by 50", x.pass(1), 10);
        Due.is("about(0, 1)", x.about(0, 1), 50);
        Due.is("count(6)", x.count(6), 25);
        Due.is("pass(2), soft by 51 and 52", x.pass(2), 20);
    }

    private static void leastSoftTubSellsFirst() {
        ColdCreamery x = Scenes.stocked(0, 0, 60, 60, 2, 3);
        x.pass(4);
        Scenes.firmCream(x, 1, 6);
        x.scoop(0, 2);
        x.setHeat(0, 0);
        Scenes.firmCream(x, 1, 5);
        x.scoop(0, 1);
        Due.is("about(1, 1)", x.about(1, 1), 50);
        Due.is("about(2, 1)", x.about(2, 1), 35);
        x.setHeat(0, 12);
        Due.is("pass(1): two of tub 2, one of tub 1", x.pass(1), 9);
        Due.is("about(2, 0)", x.about(2, 0), 0);
        Due.is("about(2, 2)", x.about(2, 2), 2);
        Due.is("about(1, 0)", x.about(1, 0), 1);
        Due.is("about(1, 2)", x.about(1, 2), 1);
        Due.is("pass(1): one of tub 1", x.pass(1), 3);
        Due.is("count(9)", x.count(9), 2);
        Due.is("count(8)", x.count(8), 4);
    }

    private static void withoutConesAllAreSentAway() {
        ColdCreamery x = shop(20, 3, 20);
        Due.is("pass(1) with three cones", x.pass(1), 9);
        Due.is("count(5)", x.count(5), 0);
        Due.is("count(9)", x.count(9), 2);
        Due.is("pass(1) without cones", x.pass(1), 0);
        Due.is("count(9)", x.count(9), 7);
        Due.is("about(0, 0)", x.about(0, 0), 37);
    }

    private static void iceMelts() {
        ColdCreamery x = Scenes.stocked(100, 0, 0, 0, 0, 0);
        int[] heats = {0, 4, 5, 14, 40, 20, 39};
        for (int day = 0; day < 7; day++) {
            x.setHeat(day, heats[day]);
        }
        int ice = 100;
        for (int hour = 0; hour < 168; hour++) {
            if (hour % 4 == 0) {
                ice = Math.max(0, ice - heats[hour / 24] / 5);
            }
            x.pass(1);
            Due.is("count(2) after hour " + hour, x.count(2), ice);
        }
        Due.is("all of it", ice, 0);
        ColdCreamery y = Scenes.stocked(5, 0, 0, 0, 0, 0);
        y.setHeat(0, 40);
        y.pass(1);
        Due.is("count(2): at least 0", y.count(2), 0);
    }

    private static void emptyTubIsNotSoft() {
        ColdCreamery x = shop(2, 60, 20);
        Due.is("pass(1): four for five people", x.pass(1), 12);
        Due.is("about(0, 0)", x.about(0, 0), 0);
        Due.is("about(0, 1)", x.about(0, 1), 0);
        Due.is("about(0, 2)", x.about(0, 2), 4);
        Due.is("count(9)", x.count(9), 1);
    }

    private static void softestScoopsAreSold() {
        ColdCreamery x = tubOfFifty();
        x.bring(3, 10);
        x.setHeat(0, 39);
        x.setHeat(1, 40);
        x.pass(5);
        Due.is("about(0, 1)", x.about(0, 1), 75);
        x.setHeat(0, 0);
        x.pass(14);
        Due.is("about(0, 1) the next day", x.about(0, 1), 61);
        x.pass(7);
        Due.is("about(0, 1)", x.about(0, 1), 100);
        Due.is("about(0, 0)", x.about(0, 0), 10);
        Due.is("next()", x.next(), 0);
        x.pass(3);
        Due.is("about(0, 0) at ten", x.about(0, 0), 4);
        x.setHeat(1, 36);
        Due.is("pass(1): two scoops melt, two are sold", x.pass(1), 4);
        Due.is("about(0, 2)", x.about(0, 2), 2);
    }

    /** Four churns and six tubs, of which the first and the last have a hand in it. */
    private static void fullCellar() {
        ColdCreamery x = Scenes.stocked(0, 0, 60, 60, 4, 6);
        x.pour(3, 1);
        x.pass(1);
        Due.is("next()", x.next(), -1);
        x.pass(4);
        Scenes.firmCream(x, 2, 5);
        x.scoop(0, 0);
        Scenes.firmCream(x, 2, 5);
        x.scoop(0, 5);
        Due.is("count(7), without four that were sold of tub 0", x.count(7), 4);
        Due.is("pass(1)", x.pass(1), 12);
        Due.is("count(8)", x.count(8), 8);
        Due.is("about(5, 2)", x.about(5, 2), 4);
        x.pass(8);
        Scenes.firmCream(x, 2, 5);
        x.scoop(0, 0);
        Scenes.firmCream(x, 3, 5);
        x.scoop(0, 5);
        Due.is("count(7) of the first and the last tub", x.count(7), 10);
        x.bring(0, 60);
        x.bring(1, 60);
        x.pack(3, 60, 15);
        Due.is("foresee(1, 7)", x.foresee(1, 7), 5);
        x.pass(1);
        Due.is("told(3, 2)", x.told(3, 2), 10);
    }
}
