import java.math.BigInteger;

/** The edges that the document names in promises 13 to 19; what is refused stands in RefusalsTest. */
public final class WouldBeEdgesTest {
    private static final int[] FORESEEN = {2, 6, 7, 8, 9};

    public static void main(String[] args) {
        passLeastAndMost();
        passOnlyItsOwnCoins();
        doneNow();
        doneInAnHour();
        doneJustOrNever();
        doneOfNone();
        doneAtMost();
        doneIfNothingIsDone();
        foreseeLeastAndMost();
        foreseeRoundTheWeek();
        foreseeWhat();
        foreseeChangesNothing();
        lastsWithoutIce();
        lastsByTheLastIce();
        lastsAtMost();
        lastsNever();
        lastsRoundTheWeek();
        lastsChangesNothing();
        saltOfNoIce();
        saltOfTheColdest();
        saltAtMost();
        saltOfAllColds();
        saltOfAnEmptyCellar();
        shareOfNobody();
        shareOfSome();
        digestWrapsAround();
        digestOfEach();
        Due.end("WouldBeEdgesTest");
    }

    private static void passLeastAndMost() {
        Due.sentence("IllegalArgumentException if hours is not 1 to 168");
        ColdCreamery x = new ColdCreamery();
        Due.argument(x, "pass(0)", () -> x.pass(0));
        Due.argument(x, "pass(169)", () -> x.pass(169));
        Due.is("pass(1)", x.pass(1), 0);
        Due.is("count(0)", x.count(0), 1);
        Due.is("pass(168)", x.pass(168), 0);
        Due.is("count(0)", x.count(0), 169);
        Due.is("count(9)", x.count(9), 7 * 9 * 5);
    }

    private static void passOnlyItsOwnCoins() {
        Due.sentence("Returns how many coins come in");
        ColdCreamery x = Scenes.tubAt(10, 10, 40);
        x.bring(3, 3);
        x.setHeat(0, 4);
        Due.is("pass(1)", x.pass(1), 3);
        Due.is("pass(1)", x.pass(1), 3);
        Due.is("count(6)", x.count(6), 6);
        Due.is("pass(7), with the last cone", x.pass(7), 3);
        Due.is("pass(1), when nobody comes", x.pass(1), 0);
        Due.is("count(6)", x.count(6), 9);
    }

    private static void doneNow() {
        Due.sentence("0 if it is now");
        int[] firms = {50, 51, 100};
        for (int firm : firms) {
            ColdCreamery x = Scenes.quiet(4, 0);
            Scenes.brewBy(x, 10, new int[] {1, 1, 1, 20}, new int[] {10, 20, 30, firm});
            Due.is("done(3), firm by " + firm, x.done(3), 0);
            x.pass(40);
            Due.is("done(3) later, not cold any more", x.done(3), 0);
        }
    }

    private static void doneInAnHour() {
        Due.sentence("behind how many hours it is firm by 50 or more");
        int[] firms = {40, 41, 49};
        for (int firm : firms) {
            ColdCreamery x = Scenes.quiet(1, 0);
            Scenes.brewBy(x, 10, new int[] {1}, new int[] {firm});
            Due.is("done(0), firm by " + firm + ", with a cold of 29", x.done(0), firm == 40 ? 2 : 1);
            Scenes.coolTo(x, 0, 30);
            Due.is("done(0), firm by " + firm + ", with a cold of 30", x.done(0), 1);
            x.pass(1);
            Due.is("done(0) an hour later", x.done(0), 0);
        }
    }

    /** Firm by so much, so cold, by a heat of 0 from here on. */
    private static ColdCreamery firmAndCold(int firm, int cold) {
        ColdCreamery x = Scenes.quiet(1, 1);
        Scenes.heatAllDays(x, 40);
        x.bring(2, 20);
        x.pour(0, 20);
        Scenes.coolTo(x, 0, 3 * firm);
        x.pass(1);
        Scenes.heatAllDays(x, 0);
        Scenes.coolTo(x, 0, cold);
        Due.is("told(0, 0)", x.told(0, 0), cold);
        Due.is("told(0, 2)", x.told(0, 2), firm);
        return x;
    }

    private static void doneJustOrNever() {
        Due.sentence("-1 if not by then");
        // from a cold of 17 down to 0 it gets firm by 45, the last 1 of it in the hour 15
        ColdCreamery x = firmAndCold(5, 17);
        Due.is("done(0), just 50 with the last cold", x.done(0), 15);
        x.pass(14);
        Due.is("told(0, 2)", x.told(0, 2), 49);
        Due.is("done(0) an hour ahead", x.done(0), 1);
        x.pass(1);
        Due.is("told(0, 2)", x.told(0, 2), 50);
        Due.is("told(0, 0): too little for more", x.told(0, 0), 2);
        Due.is("done(0) then", x.done(0), 0);
        ColdCreamery y = firmAndCold(4, 17);
        Due.is("done(0), 49 in the end", y.done(0), -1);
        y.pass(168);
        Due.is("told(0, 2)", y.told(0, 2), 49);
        Due.is("done(0) in the end", y.done(0), -1);
        y.bring(0, 4);
        y.pack(0, 4, 0);
        Due.is("done(0) with a cold of 1", y.done(0), -1);
        y.bring(0, 8);
        y.pack(0, 8, 0);
        Due.is("done(0) with a cold of 3", y.done(0), 1);
    }

    private static void doneOfNone() {
        Due.sentence("or it holds none");
        ColdCreamery x = Scenes.quiet(2, 1);
        Due.is("done(0) of an empty one", x.done(0), -1);
        Scenes.coolTo(x, 0, 30);
        Due.is("done(0) of an empty one with a cold of 30", x.done(0), -1);
        x.bring(2, 1);
        x.pour(0, 1);
        Due.is("done(0) of one that holds 1", x.done(0), 6);
        Due.is("done(1) of the empty one beside it", x.done(1), -1);
        x.pass(6);
        x.scoop(0, 0);
        Due.is("done(0) of one that is scooped out", x.done(0), -1);
    }

    private static void doneAtMost() {
        Due.sentence("at most 100");
        for (int cold = 0; cold <= 30; cold++) {
            ColdCreamery x = firmAndCold(0, cold);
            int said = x.done(0);
            int hours = 0;
            for (; hours <= 100 && x.told(0, 2) < 50; hours++) {
                x.pass(1);
            }
            Due.is("done(0) with a cold of " + cold, said, hours > 100 ? -1 : hours);
        }
    }

    private static void doneIfNothingIsDone() {
        Due.sentence("if nothing is done (nothing is changed)");
        ColdCreamery x = Scenes.quiet(1, 0);
        x.setHeat(0, 40);
        Scenes.passTo(x, 166);
        x.bring(2, 20);
        x.pour(0, 20);
        Scenes.coolTo(x, 0, 30);
        long before = x.digest();
        // 10 and 9 on day 6, then 9, 7, 6, 4, 2, 1, with a cold of 3 at last: 48
        Due.is("done(0) before a hot day, round the week", x.done(0), -1);
        Due.is("digest()", x.digest(), before);
        x.setHeat(0, 30);
        Due.is("done(0) before a warm day, round the week", x.done(0), 7);
        x.setHeat(0, 0);
        x.setHeat(1, 40);
        Due.is("done(0) before a cold day, round the week", x.done(0), 6);
    }

    /** Hot and cold days, two tubs, one of them soft, and ice for two days or three. */
    private static ColdCreamery shop(int hour) {
        ColdCreamery x = Scenes.twoTubsAt(hour, 40, 50, 30, 20);
        int[] heats = {40, 8, 30, 21, 0, 36, 16};
        for (int day = 0; day < 7; day++) {
            x.setHeat(day, heats[day]);
        }
        x.bring(0, 130);
        x.bring(3, 60);
        return x;
    }

    private static void foreseeAs(ColdCreamery x, ColdCreamery y, int hours) {
        y.pass(hours);
        for (int what : FORESEEN) {
            Due.is("foresee(" + hours + ", " + what + ")", x.foresee(hours, what), y.count(what));
        }
    }

    private static void foreseeLeastAndMost() {
        Due.sentence("hours: how many, 1 to 168");
        foreseeAs(shop(10), shop(10), 1);
        foreseeAs(shop(10), shop(10), 2);
        foreseeAs(shop(10), shop(10), 167);
        foreseeAs(shop(10), shop(10), 168);
        ColdCreamery x = new ColdCreamery();
        Due.argument(x, "foresee(0, 9)", () -> x.foresee(0, 9));
        Due.argument(x, "foresee(169, 9)", () -> x.foresee(169, 9));
        Due.is("foresee(168, 9)", x.foresee(168, 9), 7 * 9 * 5);
        Due.is("foresee(10, 9)", x.foresee(10, 9), 0);
        Due.is("foresee(11, 9)", x.foresee(11, 9), 5);
    }

    private static void foreseeRoundTheWeek() {
        Due.sentence("behind so many hours: round the week");
        // four people in each of three hours, and from ten on day 7 ten people for the other 48 cones
        ColdCreamery x = shop(160);
        Due.is("foresee(8, 8), the rest of day 6", x.foresee(8, 8), 12);
        Due.is("foresee(18, 8), until ten on day 7", x.foresee(18, 8), 12);
        Due.is("foresee(19, 8), by the heat of day 0", x.foresee(19, 8), 22);
        Due.is("foresee(22, 9), by the heat of day 0", x.foresee(22, 9), 0);
        Due.is("foresee(23, 9), by the heat of day 0", x.foresee(23, 9), 2);
        Due.is("foresee(42, 9), until ten on day 8", x.foresee(42, 9), 42);
        Due.is("foresee(43, 9), by the heat of day 1", x.foresee(43, 9), 44);
        foreseeAs(x, shop(160), 30);
        foreseeAs(x, shop(160), 168);
    }

    private static void foreseeWhat() {
        Due.sentence("2, 6, 7, 8 or 9 as count() has it");
        ColdCreamery x = Scenes.tubAt(10, 2, 40);
        x.setHeat(0, 21);
        x.bring(0, 8);
        x.bring(3, 9);
        int[] then = {8, 12, 0, 4, 1};
        for (int i = 0; i < FORESEEN.length; i++) {
            Due.is("foresee(1, " + FORESEEN[i] + ")", x.foresee(1, FORESEEN[i]), then[i]);
        }
        Due.is("foresee(2, 2)", x.foresee(2, 2), 8);
        Due.is("foresee(3, 2), behind the hour 12", x.foresee(3, 2), 4);
        int[] none = {0, 1, 3, 4, 5, 10, -1};
        for (int what : none) {
            Due.index(x, "foresee(1, " + what + ")", () -> x.foresee(1, what));
        }
    }

    private static void foreseeChangesNothing() {
        Due.sentence("foresee: if nothing is done (nothing is changed)");
        ColdCreamery x = shop(10);
        ColdCreamery y = shop(10);
        for (int hours = 1; hours <= 168; hours += 40) {
            for (int what : FORESEEN) {
                x.foresee(hours, what);
            }
            Due.is("digest() behind foresee(" + hours + ", ..)", x.digest(), y.digest());
            Due.is("pass(3) behind it", x.pass(3), y.pass(3));
        }
        int first = shop(10).foresee(100, 6);
        ColdCreamery z = shop(10);
        z.foresee(168, 6);
        z.foresee(1, 9);
        Due.is("foresee(100, 6) behind others", z.foresee(100, 6), first);
        // what was foreseen for more churns and tubs is not left over for another look
        z.churn();
        z.tub();
        Due.is("foresee(100, 6) with an empty churn and tub more", z.foresee(100, 6), first);
    }

    private static void lastsWithoutIce() {
        Due.sentence("lasts: 0 if there is none");
        ColdCreamery x = new ColdCreamery();
        Due.is("lasts() of a new one", x.lasts(), 0);
        x.pass(1);
        Due.is("lasts() in the hour 1", x.lasts(), 0);
        x.bring(0, 4);
        Due.is("lasts() with 4", x.lasts(), 4);
        x.pass(3);
        Due.is("lasts() in the hour 4", x.lasts(), 1);
        x.pass(1);
        Due.is("lasts() when it is melted", x.lasts(), 0);
        ColdCreamery y = Scenes.stocked(4, 0, 0, 0, 1, 0);
        y.pack(0, 4, 0);
        Due.is("lasts() when it is packed", y.lasts(), 0);
        Scenes.heatAllDays(y, 0);
        Due.is("lasts() of none, by a heat of 0", y.lasts(), 0);
    }

    private static void lastsByTheLastIce() {
        Due.sentence("Returns behind how many hours there is no ice any more");
        int[] ices = {1, 4, 5, 8, 9};
        int[] hours = {1, 1, 5, 5, 9};
        for (int i = 0; i < ices.length; i++) {
            ColdCreamery x = Scenes.stocked(ices[i], 0, 0, 0, 0, 0);
            Due.is("lasts() with " + ices[i], x.lasts(), hours[i]);
            x.pass(hours[i]);
            Due.is("count(2) behind them", x.count(2), 0);
            if (hours[i] > 1) {
                ColdCreamery y = Scenes.stocked(ices[i], 0, 0, 0, 0, 0);
                y.pass(hours[i] - 1);
                Due.is("count(2) an hour ahead: 1 if some is left", Math.min(1, y.count(2)), 1);
            }
        }
    }

    private static void lastsAtMost() {
        Due.sentence("lasts: at most 999; -1 if there is some by then");
        int[] begin = {0, 3, 2, 1};
        int[] hours = {997, 998, 999, -1};
        for (int i = 0; i < begin.length; i++) {
            ColdCreamery x = new ColdCreamery();
            Scenes.heatAllDays(x, 5);
            Scenes.passTo(x, begin[i]);
            x.bring(0, 250);
            Due.is("lasts() from the hour " + begin[i], x.lasts(), hours[i]);
            x.bring(0, 1);
            Due.is("lasts() with one more", x.lasts(), -1);
        }
    }

    private static void lastsNever() {
        Due.sentence("lasts: -1 if there is some by then");
        ColdCreamery x = Scenes.stocked(1, 0, 0, 0, 0, 0);
        Scenes.heatAllDays(x, 4);
        Due.is("lasts() by a heat of 4", x.lasts(), -1);
        x.setHeat(0, 5);
        Due.is("lasts() by a heat of 5", x.lasts(), 1);
        x.setHeat(0, 0);
        x.setHeat(6, 5);
        Due.is("lasts() by a heat of 5 on day 6", x.lasts(), 145);
        Scenes.heatAllDays(x, 40);
        x.bring(0, 300);
        x.bring(0, 300);
        x.bring(0, 300);
        Due.is("count(2)", x.count(2), 900);
        Due.is("lasts() of 900 by a heat of 40", x.lasts(), 449);
    }

    private static void lastsRoundTheWeek() {
        Due.sentence("lasts: if nothing is done, round the week");
        ColdCreamery x = Scenes.quiet(0, 0);
        x.setHeat(0, 40);
        Scenes.passTo(x, 164);
        x.bring(0, 8);
        Due.is("lasts() on day 6", x.lasts(), 5);
        x.bring(0, 1);
        Due.is("lasts() on day 6 with one more", x.lasts(), 9);
        x.setHeat(0, 0);
        x.setHeat(6, 40);
        Due.is("lasts() until day 13", x.lasts(), 5 + 144);
    }

    private static void lastsChangesNothing() {
        Due.sentence("lasts: (nothing is changed)");
        ColdCreamery x = shop(10);
        ColdCreamery y = shop(10);
        int hours = x.lasts();
        Due.is("lasts() again", x.lasts(), hours);
        Due.is("digest()", x.digest(), y.digest());
        x.pass(hours - 1);
        Due.is("lasts() an hour ahead", x.lasts(), 1);
        x.pass(1);
        Due.is("count(2)", x.count(2), 0);
    }

    private static ColdCreamery cold(int cold) {
        ColdCreamery x = Scenes.quiet(4, 0);
        Scenes.coolTo(x, 3, cold);
        return x;
    }

    private static void saltOfNoIce() {
        Due.sentence("ice: how much ice, 0 to 60: 0");
        int[] ices = {0, 1, 3};
        for (int ice : ices) {
            Due.is("salt(3, " + ice + "): none counts", cold(0).salt(3, ice), 0);
        }
        Due.is("salt(3, 4)", cold(0).salt(3, 4), 2);
        Due.is("salt(3, 60)", cold(0).salt(3, 60), 15);
        ColdCreamery x = cold(0);
        Due.argument(x, "salt(3, -1)", () -> x.salt(3, -1));
        Due.argument(x, "salt(3, 61)", () -> x.salt(3, 61));
    }

    private static void saltOfTheColdest() {
        Due.sentence("Returns the least salt with which the churn would be the coldest");
        int[][] coldIceSalt = {
            {30, 0, 0}, {30, 60, 0}, {29, 3, 0}, {29, 4, 0}, {28, 4, 1}, {27, 4, 2}, {26, 4, 2},
            {28, 8, 0}, {27, 8, 1}, {26, 8, 2}, {25, 8, 3}, {24, 8, 4}, {23, 8, 4}, {15, 60, 0}, {14, 60, 1},
        };
        for (int[] row : coldIceSalt) {
            Due.is("salt(3, " + row[1] + ") at " + row[0], cold(row[0]).salt(3, row[1]), row[2]);
        }
    }

    private static void saltAtMost() {
        Due.sentence("the least salt, 0 to 60");
        int[] ices = {36, 39, 40, 43, 44, 48, 59, 60};
        int[] salts = {18, 18, 20, 20, 19, 18, 16, 15};
        for (int i = 0; i < ices.length; i++) {
            Due.is("salt(3, " + ices[i] + ") at 0", cold(0).salt(3, ices[i]), salts[i]);
        }
    }

    private static void saltOfAllColds() {
        Due.sentence("packed now with so much ice, the churn would be the coldest");
        for (int cold = 0; cold <= 30; cold++) {
            ColdCreamery x = cold(cold);
            for (int ice = 0; ice <= 60; ice++) {
                int n = ice / 4;
                int best = 0;
                for (int salt = 1; salt <= 60; salt++) {
                    if (coldWith(cold, n, salt) > coldWith(cold, n, best)) {
                        best = salt;
                    }
                }
                Due.is("salt(3, " + ice + ") at " + cold, x.salt(3, ice), best);
            }
        }
    }

    private static int coldWith(int cold, int n, int salt) {
        return Math.min(30, cold + n + Math.min(salt, 2 * n));
    }

    private static void saltOfAnEmptyCellar() {
        Due.sentence("(however much there is in the cellar; nothing is changed)");
        ColdCreamery x = Scenes.stocked(0, 0, 0, 0, 1, 0);
        long before = x.digest();
        Due.is("salt(0, 40) of nothing", x.salt(0, 40), 20);
        Due.is("digest()", x.digest(), before);
        x.bring(0, 40);
        x.bring(1, 19);
        before = x.digest();
        Due.is("salt(0, 40) with 19 salt", x.salt(0, 40), 20);
        Due.is("told(0, 0)", x.told(0, 0), 0);
        Due.is("digest()", x.digest(), before);
    }

    private static void shareOfNobody() {
        Due.sentence("0 if nobody did");
        ColdCreamery x = new ColdCreamery();
        Due.isShare("share() of a new one", x.share(), 0.0);
        x.pass(10);
        Due.isShare("share() before ten", x.share(), 0.0);
        ColdCreamery y = Scenes.tubAt(10, 5, 30);
        y.bring(3, 9);
        y.setHeat(0, 3);
        y.pass(14);
        Due.isShare("share() by a heat of 3", y.share(), 0.0);
        Due.is("count(9)", y.count(9), 0);
    }

    private static void shareOfSome() {
        Due.sentence("Returns scoops that were sold, divided by all people who came");
        ColdCreamery x = Scenes.tubAt(10, 5, 30);
        x.setHeat(0, 4);
        x.pass(1);
        Due.isShare("share() of 0 in 1", x.share(), 0.0);
        x.bring(3, 3);
        x.pass(1);
        Due.isShare("share() of 1 in 2", x.share(), 1.0 / 2.0);
        x.pass(1);
        Due.isShare("share() of 2 in 3", x.share(), 2.0 / 3.0);
        x.pass(6);
        Due.isShare("share() of 3 in 9", x.share(), 3.0 / 9.0);
        ColdCreamery y = Scenes.twoTubsAt(10, 2, 40, 2, 30);
        y.bring(3, 9);
        y.setHeat(0, 16);
        y.pass(1);
        Due.isShare("share() of 4 in 4, out of two tubs", y.share(), 1.0);
        y.pass(1);
        Due.isShare("share() of 4 in 8", y.share(), 0.5);
    }

    private static void digestWrapsAround() {
        Due.sentence("d becomes d * 31 + x, which wraps around as a 64-bit integer");
        isDigest(new ColdCreamery(), 0, 0);
        isDigest(Scenes.quiet(1, 0), 1, 0);
        isDigest(Scenes.quiet(0, 1), 0, 1);
        ColdCreamery x = shop(10);
        isDigest(x, 2, 2);
        for (int hours = 1; hours <= 168; hours *= 5) {
            x.pass(hours);
            isDigest(x, 2, 2);
        }
        ColdCreamery y = Scenes.stocked(900, 300, 300, 300, 4, 6);
        isDigest(y, 4, 6);
    }

    /** Without any wrapping first, and cut to 64 bits at the very end. */
    private static void isDigest(ColdCreamery x, int churns, int tubs) {
        BigInteger d = BigInteger.valueOf(1103);
        for (int what = 0; what < 10; what++) {
            d = next(d, x.count(what));
        }
        for (int day = 0; day < 7; day++) {
            int heat = x.setHeat(day, 0);
            x.setHeat(day, heat);
            d = next(d, heat);
        }
        for (int i = 0; i < 3 * churns; i++) {
            d = next(d, x.told(i / 3, i % 3));
        }
        for (int i = 0; i < 3 * tubs; i++) {
            d = next(d, x.about(i / 3, i % 3));
        }
        Due.is("digest() is too long for 64 bits: 1 if so", d.bitLength() > 64 ? 1 : 0, 1);
        Due.is("digest() with " + churns + " churns and " + tubs + " tubs", x.digest(), d.longValue());
    }

    private static BigInteger next(BigInteger d, int x) {
        return d.multiply(BigInteger.valueOf(31)).add(BigInteger.valueOf(x));
    }

    private static void digestOfEach() {
        Due.sentence("for each of the following numbers");
        long[] powers = new long[64];
        powers[0] = 1;
        for (int i = 1; i < powers.length; i++) {
            powers[i] = powers[i - 1] * 31;
        }
        // a number's place from the end, of 17 numbers without churns and tubs
        for (int what = 0; what < 4; what++) {
            ColdCreamery x = new ColdCreamery();
            long before = x.digest();
            x.bring(what, 1);
            Due.is("digest() with 1 of " + what, x.digest() - before, powers[14 - what]);
        }
        for (int day = 1; day < 7; day++) {
            ColdCreamery x = new ColdCreamery();
            long before = x.digest();
            x.setHeat(day, 21);
            Due.is("digest() with 1 more on day " + day, x.digest() - before, powers[6 - day]);
        }
        ColdCreamery y = new ColdCreamery();
        long before = y.digest();
        y.setHeat(0, 21);
        Due.is("digest() with 1 more today", y.digest() - before, powers[6] + powers[15]);
        Due.is("digest() of a new one", before, 1103 * powers[17] + 20 * powers[15]
            + 20 * (powers[6] + powers[5] + powers[4] + powers[3] + powers[2] + powers[1] + powers[0]));
    }
}
