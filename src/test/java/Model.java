import java.util.ArrayList;
import java.util.List;

/**
 * The document in its plainest form, for ModelTest: what would be is found by copying
 * all and letting hours go by, and the best brine by trying every salt.
 * A call that the document refuses answers the text of what it throws.
 */
final class Model {
    static final String INDEX = "IndexOutOfBoundsException";
    static final String ARGUMENT = "IllegalArgumentException";
    static final String STATE = "IllegalStateException";

    final int[] stock = new int[4];
    final int[] table = {20, 20, 20, 20, 20, 20, 20};
    /** Cold, cream and firmness of each churn. */
    final List<int[]> churns = new ArrayList<>();
    /** Scoops, softness and sold scoops of each tub. */
    final List<int[]> tubs = new ArrayList<>();
    int hour = 0;
    int coins = 0;
    int away = 0;

    Model copy() {
        Model m = new Model();
        System.arraycopy(stock, 0, m.stock, 0, 4);
        System.arraycopy(table, 0, m.table, 0, 7);
        churns.forEach(c -> m.churns.add(c.clone()));
        tubs.forEach(t -> m.tubs.add(t.clone()));
        m.hour = hour;
        m.coins = coins;
        m.away = away;
        return m;
    }

    private static boolean within(int x, int low, int high) {
        return low <= x && x <= high;
    }

    private boolean isChurn(int churn) {
        return within(churn, 0, churns.size() - 1);
    }

    private boolean isTub(int tub) {
        return within(tub, 0, tubs.size() - 1);
    }

    String bring(int what, int many) {
        if (!within(what, 0, 3)) {
            return INDEX;
        }
        if (!within(many, 1, 300)) {
            return ARGUMENT;
        }
        int limit = what == 0 ? 900 : 300;
        stock[what] = stock[what] + many > limit ? limit : stock[what] + many;
        return "" + stock[what];
    }

    String setHeat(int day, int heat) {
        if (!within(day, 0, 6)) {
            return INDEX;
        }
        if (!within(heat, 0, 40)) {
            return ARGUMENT;
        }
        int before = table[day];
        table[day] = heat;
        return "" + before;
    }

    String churn() {
        if (churns.size() == 4) {
            return STATE;
        }
        churns.add(new int[3]);
        return "" + (churns.size() - 1);
    }

    String tub() {
        if (tubs.size() == 6) {
            return STATE;
        }
        tubs.add(new int[3]);
        return "" + (tubs.size() - 1);
    }

    private static int colder(int cold, int ice, int salt) {
        int n = ice / 4;
        int counts = salt > 2 * n ? 2 * n : salt;
        return cold + n + counts > 30 ? 30 : cold + n + counts;
    }

    String pack(int churn, int ice, int salt) {
        if (!isChurn(churn)) {
            return INDEX;
        }
        if (!within(ice, 0, 60) || !within(salt, 0, 60)) {
            return ARGUMENT;
        }
        if (stock[0] < ice || stock[1] < salt) {
            return STATE;
        }
        stock[0] -= ice;
        stock[1] -= salt;
        int[] c = churns.get(churn);
        c[0] = colder(c[0], ice, salt);
        return "" + c[0];
    }

    String pour(int churn, int cream) {
        if (!isChurn(churn)) {
            return INDEX;
        }
        if (!within(cream, 1, 20)) {
            return ARGUMENT;
        }
        int[] c = churns.get(churn);
        if (stock[2] < cream || c[1] + cream > 20) {
            return STATE;
        }
        stock[2] -= cream;
        c[2] = c[2] * c[1] / (c[1] + cream);
        c[1] += cream;
        return "" + c[2];
    }

    String scoop(int churn, int tub) {
        if (!isChurn(churn) || !isTub(tub)) {
            return INDEX;
        }
        int[] c = churns.get(churn);
        int[] t = tubs.get(tub);
        if (c[1] == 0 || c[2] < 50) {
            return STATE;
        }
        t[0] = Math.min(60, t[0] + c[1] * 2);
        if (t[1] < 100 - c[2]) {
            t[1] = 100 - c[2];
        }
        c[1] = 0;
        c[2] = 0;
        return "" + t[0];
    }

    String told(int churn, int what) {
        return isChurn(churn) && within(what, 0, 2) ? "" + churns.get(churn)[what] : INDEX;
    }

    String about(int tub, int what) {
        return isTub(tub) && within(what, 0, 2) ? "" + tubs.get(tub)[what] : INDEX;
    }

    private int[] counts() {
        int scoops = tubs.stream().mapToInt(t -> t[0]).sum();
        int sold = tubs.stream().mapToInt(t -> t[2]).sum();
        int heat = table[hour / 24 % 7];
        return new int[] {hour, heat, stock[0], stock[1], stock[2], stock[3], coins, scoops, sold, away};
    }

    String count(int what) {
        return within(what, 0, 9) ? "" + counts()[what] : INDEX;
    }

    int next() {
        int found = -1;
        for (int i = tubs.size() - 1; i >= 0; i--) {
            int[] t = tubs.get(i);
            if (t[0] > 0 && (found < 0 || t[1] <= tubs.get(found)[1])) {
                found = i;
            }
        }
        return found;
    }

    private void oneHour() {
        int heat = table[hour / 24 % 7];
        for (int[] c : churns) {
            if (c[1] > 0) {
                c[2] = Math.min(100, c[2] + c[0] / 3);
            }
            c[0] = Math.max(0, c[0] - (heat / 10 + 1));
        }
        for (int[] t : tubs) {
            if (t[0] > 0) {
                int change = heat > 20 && stock[0] < 100 ? (heat - 20) / 4 + 1 : -1;
                t[1] = Math.max(0, Math.min(100, t[1] + change));
                if (t[1] == 100) {
                    t[0] = Math.max(0, t[0] - 2);
                }
            }
        }
        if (within(hour % 24, 10, 18)) {
            for (int i = 0; i < heat / 4; i++) {
                onePerson();
            }
        }
        if (hour % 4 == 0) {
            stock[0] = Math.max(0, stock[0] - heat / 5);
        }
        hour++;
        for (int[] t : tubs) {
            if (t[0] == 0) {
                t[1] = 0;
            }
        }
    }

    private void onePerson() {
        int from = next();
        if (from < 0 || stock[3] == 0) {
            away++;
            return;
        }
        int[] t = tubs.get(from);
        t[0]--;
        t[2]++;
        stock[3]--;
        coins += t[1] >= 50 ? 2 : 3;
    }

    String pass(int hours) {
        if (!within(hours, 1, 168)) {
            return ARGUMENT;
        }
        int before = coins;
        for (int i = 0; i < hours; i++) {
            oneHour();
        }
        return "" + (coins - before);
    }

    String done(int churn) {
        if (!isChurn(churn)) {
            return INDEX;
        }
        Model m = copy();
        for (int hours = 0; hours <= 100; hours++) {
            if (m.churns.get(churn)[1] > 0 && m.churns.get(churn)[2] >= 50) {
                return "" + hours;
            }
            m.oneHour();
        }
        return "-1";
    }

    String foresee(int hours, int what) {
        if (!within(hours, 1, 168)) {
            return ARGUMENT;
        }
        if (what != 2 && what != 6 && what != 7 && what != 8 && what != 9) {
            return INDEX;
        }
        Model m = copy();
        m.pass(hours);
        return m.count(what);
    }

    int lasts() {
        Model m = copy();
        for (int hours = 0; hours <= 999; hours++) {
            if (m.stock[0] == 0) {
                return hours;
            }
            m.oneHour();
        }
        return -1;
    }

    String salt(int churn, int ice) {
        if (!isChurn(churn)) {
            return INDEX;
        }
        if (!within(ice, 0, 60)) {
            return ARGUMENT;
        }
        int best = 0;
        int cold = churns.get(churn)[0];
        for (int salt = 0; salt <= 60; salt++) {
            if (colder(cold, ice, salt) > colder(cold, ice, best)) {
                best = salt;
            }
        }
        return "" + best;
    }

    double share() {
        int sold = counts()[8];
        return sold + away == 0 ? 0 : (double) sold / (sold + away);
    }

    long digest() {
        List<Integer> all = new ArrayList<>();
        for (int x : counts()) {
            all.add(x);
        }
        for (int x : table) {
            all.add(x);
        }
        for (int[] c : churns) {
            all.addAll(List.of(c[0], c[1], c[2]));
        }
        for (int[] t : tubs) {
            all.addAll(List.of(t[0], t[1], t[2]));
        }
        long d = 1103;
        for (int x : all) {
            d = d * 31 + x;
        }
        return d;
    }
}
