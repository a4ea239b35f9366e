/** A wage book of reapers. Money is told in farthings. */
public final class ReaperWages {
    private static final int MOST_REAPERS = 8;
    private static final int MOST_HOURS = 99;
    private static final int MOST_DEBT = 5000;
    private static final int MOST_WEEKS = 99;
    private static final int HOURS_AT_SINGLE_COUNT = 60;

    private static final int KINDS = 3;
    private static final int KIND_PIECES = 0;
    private static final int KIND_HOURS = 1;

    private static final int RATES = 5;
    private static final int RATE_PIECES = 0;
    private static final int RATE_HOURS = 1;
    private static final int MEASURE = 2;
    private static final int BONUS = 3;
    private static final int PART = 4;
    private static final int[] LEAST_RATE = {1, 1, 100, 0, 1};
    private static final int[] MOST_RATE = {40, 99, 900, 100, 9};

    private static final int COINS = 3;
    private static final int PENNY = 4;
    private static final int[] COIN_WORTH = {120, 48, 4};

    private static final int TOLD = 8;
    private static final int WAGE_PARTS = 6;
    private static final int COUNTS = 7;

    private final int[] kinds = new int[MOST_REAPERS];
    private final int[] bound = new int[MOST_REAPERS];
    private final int[] worked = new int[MOST_REAPERS];
    private final int[] lateMarks = new int[MOST_REAPERS];
    private final int[] debts = new int[MOST_REAPERS];
    private final int[] carried = new int[MOST_REAPERS];
    private final int[] paidOut = new int[MOST_REAPERS];
    private final int[] rates = {12, 20, 400, 25, 4};
    private final int[] purse = new int[COINS];
    private int hired;
    private int week;

    // Rows for what is only tried, kept so that no call makes new ones.
    private final int[] trialRates = new int[RATES];
    private final int[] trialPurse = new int[COINS];
    private final int[] handed = new int[COINS];

    public ReaperWages() {
    }

    // ---- reapers, rates, the chest

    public int hire(int kind) throws IllegalArgumentException, IllegalStateException {
        requireArgument(kind, 0, KINDS - 1);
        requireState(hired < MOST_REAPERS);
        kinds[hired] = kind;
        hired++;
        return hired - 1;
    }

    public int setRate(int what, int to) throws IndexOutOfBoundsException, IllegalArgumentException {
        requireRate(what, to);
        int was = rates[what];
        rates[what] = to;
        return was;
    }

    public int fill(int coin, int many) throws IndexOutOfBoundsException, IllegalArgumentException {
        requireIndex(coin, COINS);
        requireArgument(many, 1, 500);
        purse[coin] += many;
        return purse[coin];
    }

    public int bind(int reaper, int sheaves) throws IndexOutOfBoundsException, IllegalArgumentException {
        requireIndex(reaper, hired);
        requireArgument(sheaves, 1, 999);
        bound[reaper] += sheaves;
        return bound[reaper];
    }

    public int work(int reaper, int hours, boolean late)
            throws IndexOutOfBoundsException, IllegalArgumentException, IllegalStateException {
        requireIndex(reaper, hired);
        requireArgument(hours, 0, 16);
        requireState(worked[reaper] + hours <= MOST_HOURS);
        worked[reaper] += hours;
        if (late) {
            lateMarks[reaper]++;
        }
        return worked[reaper];
    }

    public int lend(int reaper, int sum)
            throws IndexOutOfBoundsException, IllegalArgumentException, IllegalStateException {
        requireIndex(reaper, hired);
        requireArgument(sum, 1, 2000);
        requireState(debts[reaper] + sum <= MOST_DEBT);
        debts[reaper] += sum;
        return debts[reaper];
    }

    // ---- weeks

    public int pay() {
        int total = 0;
        for (int i = 0; i < hired; i++) {
            total += settle(i);
        }
        week++;
        return total;
    }

    // ---- what there is

    public int told(int reaper, int what) throws IndexOutOfBoundsException {
        requireIndex(reaper, hired);
        requireIndex(what, TOLD);
        switch (what) {
            case 0: return kinds[reaper];
            case 1: return bound[reaper];
            case 2: return worked[reaper];
            case 3: return lateMarks[reaper];
            case 4: return debts[reaper];
            case 5: return carried[reaper];
            case 6: return paidOut[reaper];
            default: return hoursThatCount(reaper);
        }
    }

    public int wage(int reaper, int what) throws IndexOutOfBoundsException {
        requireIndex(reaper, hired);
        requireIndex(what, WAGE_PARTS);
        switch (what) {
            case 0: return wageByPieces(reaper, rates);
            case 1: return wageByHours(reaper, rates);
            case 2: return weekWage(reaper, rates);
            case 3: return coming(reaper);
            case 4: return takenBack(debts[reaper], coming(reaper));
            default: return restToPay(reaper);
        }
    }

    public int chest(int coin) throws IndexOutOfBoundsException {
        requireIndex(coin, COINS);
        return purse[coin];
    }

    public int coins(int reaper, int coin) throws IndexOutOfBoundsException {
        requireIndex(reaper, hired);
        requireIndex(coin, COINS);
        copyRow(purse, trialPurse, COINS);
        // The reapers ahead of this one take their coins first.
        for (int i = 0; i <= reaper; i++) {
            handOut(trialPurse, restToPay(i));
        }
        return handed[coin];
    }

    public int count(int what) throws IndexOutOfBoundsException {
        requireIndex(what, COUNTS);
        switch (what) {
            case 0: return week;
            case 1: return hired;
            case 2: return sumOfHired(debts);
            case 3: return sumOfHired(carried);
            case 4: return worthOfPurse();
            case 5: return allWages(rates);
            default: return sumOfHired(paidOut);
        }
    }

    public int rate(int what) throws IndexOutOfBoundsException {
        requireIndex(what, RATES);
        return rates[what];
    }

    // ---- what would be

    public int would(int what, int to) throws IndexOutOfBoundsException, IllegalArgumentException {
        requireRate(what, to);
        copyRow(rates, trialRates, RATES);
        trialRates[what] = to;
        return allWages(trialRates);
    }

    public int until(int reaper) throws IndexOutOfBoundsException {
        requireIndex(reaper, hired);
        int debt = debts[reaper];
        if (debt == 0) {
            return 0;
        }
        int coming = coming(reaper);
        for (int weeks = 1; weeks <= MOST_WEEKS; weeks++) {
            debt -= takenBack(debt, coming);
            if (debt == 0) {
                return weeks;
            }
            // What is carried on now counts in the first week alone.
            coming = weekWage(reaper, rates);
        }
        return -1;
    }

    public int lacks() {
        copyRow(purse, trialPurse, COINS);
        int pennies = 0;
        // More pennies change nothing of the greater coins, so each one that is left unpaid is one that lacks.
        for (int i = 0; i < hired; i++) {
            int rest = restToPay(i);
            pennies += (rest - handOut(trialPurse, rest)) / PENNY;
        }
        return pennies;
    }

    public int advise() {
        long hours = 0;
        long pieces = 0;
        for (int i = 0; i < hired; i++) {
            hours += hoursThatCount(i);
            pieces += wageByPieces(i, rates);
        }
        int best = LEAST_RATE[RATE_HOURS];
        for (int rate = best + 1; rate <= MOST_RATE[RATE_HOURS]; rate++) {
            if (Math.abs(rate * hours - pieces) < Math.abs(best * hours - pieces)) {
                best = rate;
            }
        }
        return best;
    }

    public double mean() {
        return hired == 0 ? 0.0 : (double) allWages(rates) / hired;
    }

    public long digest() {
        long d = 1657;
        for (int what = 0; what < COUNTS; what++) {
            d = d * 31 + count(what);
        }
        for (int what = 0; what < RATES; what++) {
            d = d * 31 + rates[what];
        }
        for (int coin = 0; coin < COINS; coin++) {
            d = d * 31 + purse[coin];
        }
        // The reapers' part has no method of its own: calls would go nine deep then.
        for (int i = 0; i < hired; i++) {
            for (int what = 0; what < TOLD; what++) {
                d = d * 31 + told(i, what);
            }
            for (int what = 0; what < WAGE_PARTS; what++) {
                d = d * 31 + wage(i, what);
            }
            for (int coin = 0; coin < COINS; coin++) {
                d = d * 31 + coins(i, coin);
            }
        }
        return d;
    }

    // ---- the wage of one reaper

    private int wageByPieces(int reaper, int[] by) {
        int upTo = Math.min(bound[reaper], by[MEASURE]);
        // The product passes the range of int long before the 512th call.
        long beyond = bound[reaper] - upTo;
        long more = by[RATE_PIECES] * beyond * (100 + by[BONUS]) / 1000;
        return by[RATE_PIECES] * upTo / 10 + (int) more;
    }

    private int wageByHours(int reaper, int[] by) {
        return by[RATE_HOURS] * hoursThatCount(reaper);
    }

    private int hoursThatCount(int reaper) {
        int docked = (lateMarks[reaper] + 1) / 2;
        int hours = Math.max(0, worked[reaper] - docked);
        int beyond = Math.max(0, hours - HOURS_AT_SINGLE_COUNT);
        return hours + beyond / 2;
    }

    private int weekWage(int reaper, int[] by) {
        switch (kinds[reaper]) {
            case KIND_PIECES: return wageByPieces(reaper, by);
            case KIND_HOURS: return wageByHours(reaper, by);
            default: return Math.max(wageByPieces(reaper, by), wageByHours(reaper, by));
        }
    }

    private int coming(int reaper) {
        return weekWage(reaper, rates) + carried[reaper];
    }

    private int takenBack(int debt, int coming) {
        return Math.min(debt, wholeParts(coming, rates[PART]));
    }

    private int restToPay(int reaper) {
        int coming = coming(reaper);
        return coming - takenBack(debts[reaper], coming);
    }

    // ---- paying

    private int settle(int reaper) {
        int coming = coming(reaper);
        int taken = takenBack(debts[reaper], coming);
        int inCoins = handOut(purse, coming - taken);
        debts[reaper] -= taken;
        carried[reaper] = coming - taken - inCoins;
        paidOut[reaper] += inCoins;
        bound[reaper] = 0;
        worked[reaper] = 0;
        lateMarks[reaper] = 0;
        return inCoins;
    }

    /** Takes the coins for a sum out of a purse, keeps in handed how many of each, and returns their worth. */
    private int handOut(int[] from, int sum) {
        int left = sum;
        for (int coin = 0; coin < COINS; coin++) {
            int many = Math.min(wholeParts(left, COIN_WORTH[coin]), from[coin]);
            from[coin] -= many;
            handed[coin] = many;
            left -= many * COIN_WORTH[coin];
        }
        return sum - left;
    }

    private static int wholeParts(int number, int divisor) {
        return divisor < 1 ? 0 : number / divisor;
    }

    // ---- sums over the book

    private int allWages(int[] by) {
        int sum = 0;
        for (int i = 0; i < hired; i++) {
            sum += weekWage(i, by);
        }
        return sum;
    }

    private int sumOfHired(int[] row) {
        int sum = 0;
        for (int i = 0; i < hired; i++) {
            sum += row[i];
        }
        return sum;
    }

    private int worthOfPurse() {
        int worth = 0;
        for (int coin = 0; coin < COINS; coin++) {
            worth += purse[coin] * COIN_WORTH[coin];
        }
        return worth;
    }

    private static void copyRow(int[] from, int[] to, int length) {
        for (int i = 0; i < length; i++) {
            to[i] = from[i];
        }
    }

    // ---- what a call may ask

    private static void requireIndex(int index, int end) {
        if (index < 0 || index >= end) {
            throw new IndexOutOfBoundsException("no such number");
        }
    }

    private static void requireArgument(int value, int least, int most) {
        if (value < least || value > most) {
            throw new IllegalArgumentException("none that it can be");
        }
    }

    private static void requireState(boolean holds) {
        if (!holds) {
            throw new IllegalStateException("more than the book takes");
        }
    }

    private static void requireRate(int what, int to) {
        requireIndex(what, RATES);
        requireArgument(to, LEAST_RATE[what], MOST_RATE[what]);
    }
}
