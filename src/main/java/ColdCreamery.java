import java.util.Arrays;

/** An ice creamery in a cellar. */
public final class ColdCreamery {
    private static final int ICE = 0;
    private static final int SALT = 1;
    private static final int CREAM = 2;
    private static final int CONES = 3;
    private static final int[] STOCK_LIMITS = {900, 300, 300, 300};
    private static final int BRING_LIMIT = 300;

    private static final int DAY_HOURS = 24;
    private static final int TABLE_DAYS = 7;
    private static final int FIRST_HEAT = 20;
    private static final int HEAT_LIMIT = 40;
    private static final int PASS_LIMIT = 168;
    private static final int DONE_LIMIT = 100;
    private static final int LASTS_LIMIT = 999;

    private static final int CHURN_LIMIT = 4;
    private static final int CHURN_CREAM_LIMIT = 20;
    private static final int COLD_LIMIT = 30;
    private static final int PACK_LIMIT = 60;
    private static final int FIRM_LIMIT = 100;
    private static final int FIRM_ENOUGH = 50;

    private static final int TUB_LIMIT = 6;
    private static final int TUB_SCOOPS_LIMIT = 60;
    private static final int SOFT_LIMIT = 100;
    private static final int SOFT_PRICE_FROM = 50;
    private static final int SOFT_HEAT = 20;
    private static final int COOLING_ICE = 100;
    private static final int FIRST_SALE_HOUR = 10;
    private static final int LAST_SALE_HOUR = 18;

    private static final int COUNTS = 10;
    private static final int CHURN_NUMBERS = 3;
    private static final int TUB_NUMBERS = 3;
    private static final long DIGEST_START = 1103;

    private final Cellar cellar;
    /** Made once, so that foreseeing makes no new objects. */
    private final Cellar foreseen;

    public ColdCreamery() {
        cellar = new Cellar();
        foreseen = new Cellar();
    }

    // ---- cellar

    public int bring(int what, int many) throws IndexOutOfBoundsException, IllegalArgumentException {
        if (what < ICE || what > CONES) {
            throw new IndexOutOfBoundsException("what is 0 to 3");
        }
        if (many < 1 || many > BRING_LIMIT) {
            throw new IllegalArgumentException("many is 1 to 300");
        }
        cellar.stock[what] = Math.min(STOCK_LIMITS[what], cellar.stock[what] + many);
        return cellar.stock[what];
    }

    public int setHeat(int day, int heat) throws IndexOutOfBoundsException, IllegalArgumentException {
        if (day < 0 || day >= TABLE_DAYS) {
            throw new IndexOutOfBoundsException("day is 0 to 6");
        }
        if (heat < 0 || heat > HEAT_LIMIT) {
            throw new IllegalArgumentException("heat is 0 to 40");
        }
        int before = cellar.heats[day];
        cellar.heats[day] = heat;
        return before;
    }

    // ---- churns and tubs

    public int churn() throws IllegalStateException {
        if (cellar.churnCount >= CHURN_LIMIT) {
            throw new IllegalStateException("there are 4 churns");
        }
        int number = cellar.churnCount;
        cellar.churnCount = number + 1;
        return number;
    }

    public int tub() throws IllegalStateException {
        if (cellar.tubCount >= TUB_LIMIT) {
            throw new IllegalStateException("there are 6 tubs");
        }
        int number = cellar.tubCount;
        cellar.tubCount = number + 1;
        return number;
    }

    public int pack(int churn, int ice, int salt)
            throws IndexOutOfBoundsException, IllegalArgumentException, IllegalStateException {
        Churn packed = existingChurn(churn);
        checkPacked(ice);
        checkPacked(salt);
        if (ice > cellar.stock[ICE] || salt > cellar.stock[SALT]) {
            throw new IllegalStateException("there is not so much in the cellar");
        }
        cellar.stock[ICE] -= ice;
        cellar.stock[SALT] -= salt;
        packed.cold = coldWithBrine(packed.cold, ice, salt);
        return packed.cold;
    }

    public int pour(int churn, int cream)
            throws IndexOutOfBoundsException, IllegalArgumentException, IllegalStateException {
        Churn filled = existingChurn(churn);
        if (cream < 1 || cream > CHURN_CREAM_LIMIT) {
            throw new IllegalArgumentException("cream is 1 to 20");
        }
        if (cream > cellar.stock[CREAM]) {
            throw new IllegalStateException("there is not so much cream in the cellar");
        }
        if (filled.cream + cream > CHURN_CREAM_LIMIT) {
            throw new IllegalStateException("a churn holds 20 cream at most");
        }
        cellar.stock[CREAM] -= cream;
        filled.add(cream);
        return filled.firm;
    }

    public int scoop(int churn, int tub) throws IndexOutOfBoundsException, IllegalStateException {
        Churn emptied = existingChurn(churn);
        Tub filled = existingTub(tub);
        if (emptied.cream == 0 || emptied.firm < FIRM_ENOUGH) {
            throw new IllegalStateException("the churn holds no firm cream");
        }
        filled.take(emptied.cream, emptied.firm);
        emptied.cream = 0;
        emptied.firm = 0;
        return filled.scoops;
    }

    // ---- what is there

    public int told(int churn, int what) throws IndexOutOfBoundsException {
        Churn asked = existingChurn(churn);
        if (what < 0 || what >= CHURN_NUMBERS) {
            throw new IndexOutOfBoundsException("what is 0 to 2");
        }
        return asked.number(what);
    }

    public int about(int tub, int what) throws IndexOutOfBoundsException {
        Tub asked = existingTub(tub);
        if (what < 0 || what >= TUB_NUMBERS) {
            throw new IndexOutOfBoundsException("what is 0 to 2");
        }
        return asked.number(what);
    }

    public int count(int what) throws IndexOutOfBoundsException {
        if (what < 0 || what >= COUNTS) {
            throw new IndexOutOfBoundsException("what is 0 to 9");
        }
        return cellar.number(what);
    }

    public int next() {
        return cellar.sellingTub();
    }

    // ---- hours and what would be

    public int pass(int hours) throws IllegalArgumentException {
        checkHours(hours);
        int before = cellar.coins;
        cellar.runHours(hours);
        return cellar.coins - before;
    }

    public int done(int churn) throws IndexOutOfBoundsException {
        return cellar.hoursUntilFirm(existingChurn(churn));
    }

    public int foresee(int hours, int what) throws IllegalArgumentException, IndexOutOfBoundsException {
        checkHours(hours);
        if (what != 2 && (what < 6 || what >= COUNTS)) {
            throw new IndexOutOfBoundsException("what is 2, 6, 7, 8 or 9");
        }
        foreseen.copyFrom(cellar);
        foreseen.runHours(hours);
        return foreseen.number(what);
    }

    public int lasts() {
        return cellar.hoursUntilNoIce();
    }

    public int salt(int churn, int ice) throws IndexOutOfBoundsException, IllegalArgumentException {
        Churn asked = existingChurn(churn);
        checkPacked(ice);
        int byIce = coldOfIce(ice);
        int stillWarm = Math.max(0, COLD_LIMIT - asked.cold - byIce);
        return Math.min(stillWarm, 2 * byIce);
    }

    public double share() {
        int sold = cellar.soldScoops();
        int came = sold + cellar.sentAway;
        return came == 0 ? 0.0 : (double) sold / (double) came;
    }

    public long digest() {
        long digest = DIGEST_START;
        for (int what = 0; what < COUNTS; what++) {
            digest = mixed(digest, cellar.number(what));
        }
        for (int day = 0; day < TABLE_DAYS; day++) {
            digest = mixed(digest, cellar.heats[day]);
        }
        for (int i = 0; i < cellar.churnCount; i++) {
            for (int what = 0; what < CHURN_NUMBERS; what++) {
                digest = mixed(digest, cellar.churns[i].number(what));
            }
        }
        for (int i = 0; i < cellar.tubCount; i++) {
            for (int what = 0; what < TUB_NUMBERS; what++) {
                digest = mixed(digest, cellar.tubs[i].number(what));
            }
        }
        return digest;
    }

    private Churn existingChurn(int number) throws IndexOutOfBoundsException {
        if (number < 0 || number >= cellar.churnCount) {
            throw new IndexOutOfBoundsException("there is no such churn");
        }
        return cellar.churns[number];
    }

    private Tub existingTub(int number) throws IndexOutOfBoundsException {
        if (number < 0 || number >= cellar.tubCount) {
            throw new IndexOutOfBoundsException("there is no such tub");
        }
        return cellar.tubs[number];
    }

    private static void checkPacked(int many) throws IllegalArgumentException {
        if (many < 0 || many > PACK_LIMIT) {
            throw new IllegalArgumentException("ice and salt are 0 to 60");
        }
    }

    private static void checkHours(int hours) throws IllegalArgumentException {
        if (hours < 1 || hours > PASS_LIMIT) {
            throw new IllegalArgumentException("hours is 1 to 168");
        }
    }

    private static int coldOfIce(int ice) {
        return ice / 4;
    }

    private static int coldWithBrine(int cold, int ice, int salt) {
        int byIce = coldOfIce(ice);
        int bySalt = Math.min(salt, 2 * byIce);
        return Math.min(COLD_LIMIT, cold + byIce + bySalt);
    }

    private static int firmAfterHour(int firm, int cold) {
        return Math.min(FIRM_LIMIT, firm + cold / 3);
    }

    private static int coldAfterHour(int cold, int heat) {
        return Math.max(0, cold - heat / 10 - 1);
    }

    private static int iceAfterHour(int ice, int hour, int heat) {
        return hour % 4 == 0 ? Math.max(0, ice - heat / 5) : ice;
    }

    private static long mixed(long digest, long number) {
        return digest * 31 + number;
    }

    /** A churn in its brine. */
    private static final class Churn {
        private int cold;
        private int cream;
        private int firm;

        int number(int what) {
            switch (what) {
                case 0:
                    return cold;
                case 1:
                    return cream;
                default:
                    return firm;
            }
        }

        void add(int many) {
            int held = cream;
            cream = held + many;
            // the test is for the machine alone: no call gets here with nothing to pour
            firm = cream == 0 ? 0 : firm * held / cream;
        }

        void turn(int heat) {
            if (cream > 0) {
                firm = firmAfterHour(firm, cold);
            }
            cold = coldAfterHour(cold, heat);
        }

        void copyFrom(Churn other) {
            cold = other.cold;
            cream = other.cream;
            firm = other.firm;
        }
    }

    /** A tub that scoops are sold out of. */
    private static final class Tub {
        private int scoops;
        private int soft;
        private int sold;

        int number(int what) {
            switch (what) {
                case 0:
                    return scoops;
                case 1:
                    return soft;
                default:
                    return sold;
            }
        }

        void take(int cream, int firm) {
            scoops = Math.min(TUB_SCOOPS_LIMIT, scoops + 2 * cream);
            soft = Math.max(soft, SOFT_LIMIT - firm);
        }

        void standInHeat(int heat, int ice) {
            if (scoops == 0) {
                return;
            }
            if (heat > SOFT_HEAT && ice < COOLING_ICE) {
                soft = Math.min(SOFT_LIMIT, soft + (heat - SOFT_HEAT) / 4 + 1);
            } else {
                soft = Math.max(0, soft - 1);
            }
            if (soft == SOFT_LIMIT) {
                scoops = Math.max(0, scoops - 2);
            }
        }

        int sellScoop() {
            scoops--;
            sold++;
            return soft >= SOFT_PRICE_FROM ? 2 : 3;
        }

        void forgetSoftnessIfEmpty() {
            if (scoops == 0) {
                soft = 0;
            }
        }

        void copyFrom(Tub other) {
            scoops = other.scoops;
            soft = other.soft;
            sold = other.sold;
        }
    }

    /** All that is in the cellar, and how its hours go. */
    private static final class Cellar {
        private final int[] stock = new int[STOCK_LIMITS.length];
        private final int[] heats = new int[TABLE_DAYS];
        private final Churn[] churns = new Churn[CHURN_LIMIT];
        private final Tub[] tubs = new Tub[TUB_LIMIT];
        private int churnCount;
        private int tubCount;
        private int hour;
        private int coins;
        private int sentAway;

        Cellar() {
            Arrays.fill(heats, FIRST_HEAT);
            // the rows are filled at once, so that no place in them is ever null
            for (int i = 0; i < CHURN_LIMIT; i++) {
                churns[i] = new Churn();
            }
            for (int i = 0; i < TUB_LIMIT; i++) {
                tubs[i] = new Tub();
            }
        }

        int number(int what) {
            switch (what) {
                case 0:
                    return hour;
                case 1:
                    return heatAt(hour);
                case 2:
                    return stock[ICE];
                case 3:
                    return stock[SALT];
                case 4:
                    return stock[CREAM];
                case 5:
                    return stock[CONES];
                case 6:
                    return coins;
                case 7:
                    return scoopsInTubs();
                case 8:
                    return soldScoops();
                default:
                    return sentAway;
            }
        }

        int heatAt(int time) {
            // floorMod, as an hour that has wrapped around must not become a negative index
            return heats[Math.floorMod(time / DAY_HOURS, TABLE_DAYS)];
        }

        int scoopsInTubs() {
            int all = 0;
            for (int i = 0; i < tubCount; i++) {
                all += tubs[i].scoops;
            }
            return all;
        }

        int soldScoops() {
            int all = 0;
            for (int i = 0; i < tubCount; i++) {
                all += tubs[i].sold;
            }
            return all;
        }

        int sellingTub() {
            int best = -1;
            int bestSoft = SOFT_LIMIT + 1;
            for (int i = 0; i < tubCount; i++) {
                if (tubs[i].scoops > 0 && tubs[i].soft < bestSoft) {
                    best = i;
                    bestSoft = tubs[i].soft;
                }
            }
            return best;
        }

        void runHours(int hours) {
            for (int i = 0; i < hours; i++) {
                runHour();
            }
        }

        private void runHour() {
            int heat = heatAt(hour);
            for (int i = 0; i < churnCount; i++) {
                churns[i].turn(heat);
            }
            for (int i = 0; i < tubCount; i++) {
                tubs[i].standInHeat(heat, stock[ICE]);
            }
            servePeople(heat);
            stock[ICE] = iceAfterHour(stock[ICE], hour, heat);
            hour++;
            for (int i = 0; i < tubCount; i++) {
                tubs[i].forgetSoftnessIfEmpty();
            }
        }

        private void servePeople(int heat) {
            int hourOfDay = hour % DAY_HOURS;
            if (hourOfDay < FIRST_SALE_HOUR || hourOfDay > LAST_SALE_HOUR) {
                return;
            }
            int people = heat / 4;
            for (int i = 0; i < people; i++) {
                serveOne();
            }
        }

        private void serveOne() {
            int best = sellingTub();
            if (best < 0 || stock[CONES] == 0) {
                sentAway++;
                return;
            }
            stock[CONES]--;
            coins += tubs[best].sellScoop();
        }

        int hoursUntilFirm(Churn churn) {
            if (churn.cream == 0) {
                return -1;
            }
            int firm = churn.firm;
            int cold = churn.cold;
            for (int gone = 0; gone <= DONE_LIMIT; gone++) {
                if (firm >= FIRM_ENOUGH) {
                    return gone;
                }
                firm = firmAfterHour(firm, cold);
                cold = coldAfterHour(cold, heatAt(hour + gone));
            }
            return -1;
        }

        int hoursUntilNoIce() {
            int ice = stock[ICE];
            for (int gone = 0; gone <= LASTS_LIMIT; gone++) {
                if (ice == 0) {
                    return gone;
                }
                ice = iceAfterHour(ice, hour + gone, heatAt(hour + gone));
            }
            return -1;
        }

        void copyFrom(Cellar other) {
            System.arraycopy(other.stock, 0, stock, 0, stock.length);
            System.arraycopy(other.heats, 0, heats, 0, heats.length);
            for (int i = 0; i < CHURN_LIMIT; i++) {
                churns[i].copyFrom(other.churns[i]);
            }
            for (int i = 0; i < TUB_LIMIT; i++) {
                tubs[i].copyFrom(other.tubs[i]);
            }
            churnCount = other.churnCount;
            tubCount = other.tubCount;
            hour = other.hour;
            coins = other.coins;
            sentAway = other.sentAway;
        }
    }
}
