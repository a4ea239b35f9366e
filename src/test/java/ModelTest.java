import java.math.BigInteger;
import java.util.ArrayList;
import java.util.List;

/**
 * Long runs of calls, made by a fixed rule, on the program and on a model of the document that is written
 * another way: sums without a bound, coins paid one by one, answers looked for by trying.
 */
public final class ModelTest {
    private static final int RUNS = 400;
    private static final int CALLS = 512;
    private static final int[] LEAST = {1, 1, 100, 0, 1};
    private static final int[] MOST = {40, 99, 900, 100, 9};
    private static final int[] WORTH = {120, 48, 4};

    private static final class Refusal extends RuntimeException {
        private static final long serialVersionUID = 1L;
        final Class<?> due;

        Refusal(Class<?> due) {
            this.due = due;
        }
    }

    private static final class Man {
        int kind;
        long sheaves;
        long hours;
        long late;
        long debt;
        long carried;
        long paid;

        Man copy() {
            Man man = new Man();
            man.kind = kind;
            man.sheaves = sheaves;
            man.hours = hours;
            man.late = late;
            man.debt = debt;
            man.carried = carried;
            man.paid = paid;
            return man;
        }
    }

    private static final class Model {
        final List<Man> men = new ArrayList<>();
        long[] rates = {12, 20, 400, 25, 4};
        long[] chest = {0, 0, 0};
        long week = 0;
        final long[][] paidCoins = new long[8][3];

        Model copy() {
            Model model = new Model();
            for (Man man : men) {
                model.men.add(man.copy());
            }
            model.rates = rates.clone();
            model.chest = chest.clone();
            model.week = week;
            return model;
        }

        static void index(boolean good) {
            if (!good) throw new Refusal(IndexOutOfBoundsException.class);
        }

        static void argument(boolean good) {
            if (!good) throw new Refusal(IllegalArgumentException.class);
        }

        static void state(boolean good) {
            if (!good) throw new Refusal(IllegalStateException.class);
        }

        Man man(int reaper) {
            index(reaper >= 0 && reaper < men.size());
            return men.get(reaper);
        }

        long hire(int kind) {
            argument(kind == 0 || kind == 1 || kind == 2);
            state(men.size() != 8);
            Man man = new Man();
            man.kind = kind;
            men.add(man);
            return men.size() - 1;
        }

        long setRate(int what, int to) {
            index(what >= 0 && what <= 4);
            argument(to >= LEAST[what] && to <= MOST[what]);
            long was = rates[what];
            rates[what] = to;
            return was;
        }

        long fill(int coin, int many) {
            index(coin >= 0 && coin <= 2);
            argument(many >= 1 && many <= 500);
            return chest[coin] += many;
        }

        long bind(int reaper, int sheaves) {
            Man man = man(reaper);
            argument(sheaves >= 1 && sheaves <= 999);
            return man.sheaves += sheaves;
        }

        long work(int reaper, int hours, boolean late) {
            Man man = man(reaper);
            argument(hours >= 0 && hours <= 16);
            state(man.hours + hours <= 99);
            man.late += late ? 1 : 0;
            return man.hours += hours;
        }

        long lend(int reaper, int sum) {
            Man man = man(reaper);
            argument(sum >= 1 && sum <= 2000);
            state(man.debt + sum <= 5000);
            return man.debt += sum;
        }

        long pieces(Man man) {
            BigInteger rate = BigInteger.valueOf(rates[0]);
            BigInteger upTo = BigInteger.valueOf(man.sheaves < rates[2] ? man.sheaves : rates[2]);
            BigInteger beyond = BigInteger.valueOf(man.sheaves).subtract(upTo);
            BigInteger first = rate.multiply(upTo).divide(BigInteger.TEN);
            BigInteger second = rate.multiply(beyond).multiply(BigInteger.valueOf(100 + rates[3]))
                    .divide(BigInteger.valueOf(1000));
            return first.add(second).longValueExact();
        }

        long counted(Man man) {
            long hours = man.hours - man.late / 2 - man.late % 2;
            if (hours <= 0) return 0;
            return hours <= 60 ? hours : hours + (hours - 60) / 2;
        }

        long byHours(Man man) {
            return rates[1] * counted(man);
        }

        long weekWage(Man man) {
            long[] of = {pieces(man), byHours(man), pieces(man) > byHours(man) ? pieces(man) : byHours(man)};
            return of[man.kind];
        }

        long part(Man man, long coming) {
            long part = coming / rates[4];
            return man.debt < part ? man.debt : part;
        }

        long pay() {
            long all = 0;
            for (int i = 0; i < men.size(); i++) {
                Man man = men.get(i);
                long coming = weekWage(man) + man.carried;
                long taken = part(man, coming);
                long rest = coming - taken;
                for (int coin = 0; coin < 3; coin++) {
                    paidCoins[i][coin] = 0;
                    while (rest >= WORTH[coin] && chest[coin] > 0) {
                        rest -= WORTH[coin];
                        chest[coin]--;
                        paidCoins[i][coin]++;
                        man.paid += WORTH[coin];
                        all += WORTH[coin];
                    }
                }
                man.debt -= taken;
                man.carried = rest;
                man.sheaves = 0;
                man.hours = 0;
                man.late = 0;
            }
            week++;
            return all;
        }

        long told(int reaper, int what) {
            Man man = man(reaper);
            index(what >= 0 && what <= 7);
            long[] all = {man.kind, man.sheaves, man.hours, man.late, man.debt, man.carried, man.paid, counted(man)};
            return all[what];
        }

        long wage(int reaper, int what) {
            Man man = man(reaper);
            index(what >= 0 && what <= 5);
            long coming = weekWage(man) + man.carried;
            long taken = part(man, coming);
            long[] all = {pieces(man), byHours(man), weekWage(man), coming, taken, coming - taken};
            return all[what];
        }

        long chest(int coin) {
            index(coin >= 0 && coin <= 2);
            return chest[coin];
        }

        long coins(int reaper, int coin) {
            man(reaper);
            index(coin >= 0 && coin <= 2);
            Model then = copy();
            then.pay();
            return then.paidCoins[reaper][coin];
        }

        long count(int what) {
            index(what >= 0 && what <= 6);
            long[] all = {week, men.size(), 0, 0, 120 * chest[0] + 48 * chest[1] + 4 * chest[2], 0, 0};
            for (Man man : men) {
                all[2] += man.debt;
                all[3] += man.carried;
                all[5] += weekWage(man);
                all[6] += man.paid;
            }
            return all[what];
        }

        long rate(int what) {
            index(what >= 0 && what <= 4);
            return rates[what];
        }

        long would(int what, int to) {
            Model then = copy();
            then.setRate(what, to);
            return then.count(5);
        }

        long until(int reaper) {
            Man man = man(reaper).copy();
            for (int weeks = 0; weeks <= 99; weeks++) {
                if (man.debt == 0) return weeks;
                man.debt -= part(man, weekWage(man) + man.carried);
                man.carried = 0;
            }
            return -1;
        }

        boolean carriesButFarthings(long morePennies) {
            Model then = copy();
            then.chest[2] += morePennies;
            then.pay();
            for (Man man : then.men) {
                if (man.carried >= 4) return false;
            }
            return true;
        }

        long lacks() {
            long few = -1;
            long enough = 0;
            while (!carriesButFarthings(enough)) {
                few = enough;
                enough = enough * 2 + 1;
            }
            while (enough - few > 1) {
                long middle = (few + enough) / 2;
                if (carriesButFarthings(middle)) enough = middle;
                else few = middle;
            }
            return enough;
        }

        long advise() {
            long best = 0;
            long least = Long.MAX_VALUE;
            Model then = copy();
            for (int rate = 99; rate >= 1; rate--) {
                then.rates[1] = rate;
                long off = 0;
                for (Man man : then.men) {
                    off += then.byHours(man) - then.pieces(man);
                }
                off = off < 0 ? -off : off;
                if (off <= least) {
                    least = off;
                    best = rate;
                }
            }
            return best;
        }

        double mean() {
            if (men.isEmpty()) return 0;
            return (double) count(5) / (double) men.size();
        }

        long digest() {
            List<Long> told = new ArrayList<>();
            for (int what = 0; what <= 6; what++) told.add(count(what));
            for (int what = 0; what <= 4; what++) told.add(rates[what]);
            for (int coin = 0; coin <= 2; coin++) told.add(chest[coin]);
            Model then = copy();
            then.pay();
            for (int reaper = 0; reaper < men.size(); reaper++) {
                for (int what = 0; what <= 7; what++) told.add(told(reaper, what));
                for (int what = 0; what <= 5; what++) told.add(wage(reaper, what));
                for (int coin = 0; coin <= 2; coin++) told.add(then.paidCoins[reaper][coin]);
            }
            BigInteger d = BigInteger.valueOf(1657);
            for (long x : told) d = d.multiply(BigInteger.valueOf(31)).add(BigInteger.valueOf(x));
            return d.longValue();
        }
    }

    /** The same numbers in every run of the test. */
    private static final class Numbers {
        private long state;

        Numbers(long seed) {
            state = seed * 2862933555777941757L + 3037000493L;
        }

        int below(int end) {
            state = state * 6364136223846793005L + 1442695040888963407L;
            return (int) ((state >>> 33) % end);
        }

        /** Mostly from least to most, often the edges, seldom beyond. */
        int near(int least, int most) {
            int how = below(24);
            if (how == 0) return least - 1;
            if (how == 1) return most + 1;
            if (how == 2) return least;
            if (how == 3) return most;
            if (how == 4 && below(6) == 0) return below(2) == 0 ? Integer.MIN_VALUE : Integer.MAX_VALUE;
            return least + below(most - least + 1);
        }
    }

    private interface Answer {
        long get();
    }

    private static int wrong = 0;

    public static void main(String[] args) {
        for (int run = 0; run < RUNS && wrong < 20; run++) {
            run(run);
        }
        System.out.println(wrong == 0 ? "the program answers as the model does" : wrong + " answers are wrong");
        if (wrong != 0) {
            System.exit(1);
        }
    }

    private static void run(int run) {
        Numbers numbers = new Numbers(run);
        ReaperWages book = new ReaperWages();
        Model model = new Model();
        // Some runs pay or hire seldom, so that much is heaped up or the book stays small.
        int payEvery = 1 + numbers.below(run % 4 == 0 ? 60 : 6);
        int hireEvery = 1 + numbers.below(10);
        // Some runs look at all seldom, so that more of the 512 calls are the run's own.
        int stepsToDigest = run % 3 == 0 ? 16 : 1;
        int steps = CALLS * stepsToDigest / (stepsToDigest + 1);
        for (int step = 1; step <= steps && wrong < 20; step++) {
            String where = "run " + run + ", step " + step + ": ";
            step(where, numbers, book, model, payEvery, hireEvery);
            if (step % stepsToDigest == 0) {
                same(where + "digest()", book::digest, model::digest);
            }
        }
    }

    private static void step(String where, Numbers numbers, ReaperWages book, Model model, int payEvery, int hireEvery) {
        int men = model.men.size();
        int reaper = numbers.near(0, Math.max(0, men - 1));
        int what = numbers.near(0, 4);
        int to = what >= 0 && what <= 4 ? numbers.near(LEAST[what], MOST[what]) : numbers.near(0, 100);
        int coin = numbers.near(0, 2);
        boolean late = numbers.below(3) == 0;
        int kind = numbers.near(0, 2);
        int many = numbers.below(3) == 0 ? numbers.near(1, 500) : numbers.near(1, 20);
        int sheaves = numbers.near(1, 999);
        int hours = numbers.near(0, 16);
        int sum = numbers.below(2) == 0 ? numbers.near(1, 2000) : numbers.near(1, 90);
        int toldWhat = numbers.near(0, 7);
        int wageWhat = numbers.near(0, 5);
        int countWhat = numbers.near(0, 6);
        switch (numbers.below(21)) {
            case 0:
                if (numbers.below(hireEvery) == 0 || men == 0) same(where + "hire " + kind, () -> book.hire(kind), () -> model.hire(kind));
                break;
            case 1: same(where + "setRate " + what + " " + to, () -> book.setRate(what, to), () -> model.setRate(what, to)); break;
            case 2: same(where + "fill " + coin + " " + many, () -> book.fill(coin, many), () -> model.fill(coin, many)); break;
            case 3:
            case 4: same(where + "bind " + reaper + " " + sheaves, () -> book.bind(reaper, sheaves), () -> model.bind(reaper, sheaves)); break;
            case 5:
            case 6:
            case 7: same(where + "work " + reaper + " " + hours + " " + late, () -> book.work(reaper, hours, late), () -> model.work(reaper, hours, late)); break;
            case 8: same(where + "lend " + reaper + " " + sum, () -> book.lend(reaper, sum), () -> model.lend(reaper, sum)); break;
            case 9:
                if (numbers.below(payEvery) == 0) same(where + "pay", book::pay, model::pay);
                break;
            case 10: same(where + "told " + reaper + " " + toldWhat, () -> book.told(reaper, toldWhat), () -> model.told(reaper, toldWhat)); break;
            case 11: same(where + "wage " + reaper + " " + wageWhat, () -> book.wage(reaper, wageWhat), () -> model.wage(reaper, wageWhat)); break;
            case 12: same(where + "chest " + coin, () -> book.chest(coin), () -> model.chest(coin)); break;
            case 13: same(where + "coins " + reaper + " " + coin, () -> book.coins(reaper, coin), () -> model.coins(reaper, coin)); break;
            case 14: same(where + "count " + countWhat, () -> book.count(countWhat), () -> model.count(countWhat)); break;
            case 15: same(where + "rate " + what, () -> book.rate(what), () -> model.rate(what)); break;
            case 16: same(where + "would " + what + " " + to, () -> book.would(what, to), () -> model.would(what, to)); break;
            case 17: same(where + "until " + reaper, () -> book.until(reaper), () -> model.until(reaper)); break;
            case 18: same(where + "lacks", book::lacks, model::lacks); break;
            case 19: same(where + "advise", book::advise, model::advise); break;
            default:
                same(where + "mean", () -> Double.doubleToLongBits(book.mean()), () -> Double.doubleToLongBits(model.mean()));
        }
    }

    private static void same(String call, Answer program, Answer model) {
        String got = told(program);
        String due = told(model);
        if (!got.equals(due)) {
            wrong++;
            System.out.println(call + ": answered " + got + ", due is " + due);
        }
    }

    private static String told(Answer answer) {
        try {
            return Long.toString(answer.get());
        } catch (Refusal refusal) {
            return refusal.due.getName();
        } catch (RuntimeException e) {
            return e.getClass().getName();
        }
    }
}
