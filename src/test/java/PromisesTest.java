/** Each promise by itself: ordinary inputs, the edges that the document names, and wrong inputs. */
public final class PromisesTest {
    private interface Call {
        void on(ReaperWages book);
    }

    private static final Class<?> INDEX = IndexOutOfBoundsException.class;
    private static final Class<?> ARGUMENT = IllegalArgumentException.class;
    private static final Class<?> STATE = IllegalStateException.class;
    private static final int LEAST_INT = Integer.MIN_VALUE;
    private static final int MOST_INT = Integer.MAX_VALUE;

    private static int wrong = 0;

    public static void main(String[] args) {
        newObject();
        hire();
        setRate();
        fill();
        bind();
        work();
        lend();
        pay();
        payWithFewCoins();
        told();
        wageByPieces();
        wageByHours();
        wageOfAWeek();
        chest();
        coins();
        count();
        rate();
        would();
        until();
        untilAtMost99();
        lacks();
        advise();
        mean();
        digest();
        exceptionsInTheirOrder();
        fullBook();
        exampleOfTheReadme();
        farBeyondTheLastCall();
        System.out.println(wrong == 0 ? "all promises hold" : wrong + " answers are wrong");
        if (wrong != 0) {
            System.exit(1);
        }
    }

    // ---- promise 1

    private static void newObject() {
        ReaperWages book = new ReaperWages();
        for (int what = 0; what < 7; what++) {
            due("a new book's count(" + what + ")", 0, book.count(what));
        }
        int[] rates = {12, 20, 400, 25, 4};
        for (int what = 0; what < 5; what++) {
            due("a new book's rate(" + what + ")", rates[what], book.rate(what));
        }
        for (int coin = 0; coin < 3; coin++) {
            due("a new book's chest(" + coin + ")", 0, book.chest(coin));
        }
        book.hire(2);
        book.bind(0, 5);
        book.fill(0, 1);
        book.setRate(0, 1);
        ReaperWages other = new ReaperWages();
        due("two books share no reapers", 0, other.count(1));
        due("two books share no coins", 0, other.chest(0));
        due("two books share no rates", 12, other.rate(0));
        due("two books share no sheaves", 0, bookOf(0).told(0, 1));
    }

    // ---- promise 2

    private static void hire() {
        ReaperWages book = new ReaperWages();
        for (int i = 0; i < 8; i++) {
            refused("hire(3)", ARGUMENT, book, b -> b.hire(3));
            refused("hire(-1)", ARGUMENT, book, b -> b.hire(-1));
            refused("hire(least)", ARGUMENT, book, b -> b.hire(LEAST_INT));
            refused("hire(most)", ARGUMENT, book, b -> b.hire(MOST_INT));
            due("hire, the number", i, book.hire(i % 3));
            due("hire, how many then", i + 1, book.count(1));
        }
        for (int i = 0; i < 8; i++) {
            due("hire, the kind", i % 3, book.told(i, 0));
            for (int what = 1; what < 8; what++) {
                due("a new reaper's told(" + what + ")", 0, book.told(i, what));
            }
        }
        refused("hire a ninth", STATE, book, b -> b.hire(0));
        refused("hire a ninth of no kind", ARGUMENT, book, b -> b.hire(3));
    }

    // ---- promise 3

    private static void setRate() {
        int[] first = {12, 20, 400, 25, 4};
        int[] least = {1, 1, 100, 0, 1};
        int[] most = {40, 99, 900, 100, 9};
        ReaperWages book = bookOf(2);
        for (int i = 0; i < 5; i++) {
            int what = i;
            refused("setRate below", ARGUMENT, book, b -> b.setRate(what, least[what] - 1));
            refused("setRate above", ARGUMENT, book, b -> b.setRate(what, most[what] + 1));
            refused("setRate far below", ARGUMENT, book, b -> b.setRate(what, LEAST_INT));
            refused("setRate far above", ARGUMENT, book, b -> b.setRate(what, MOST_INT));
            due("setRate to the least, what it was", first[what], book.setRate(what, least[what]));
            due("setRate to the least, what it is", least[what], book.rate(what));
            due("setRate to the most, what it was", least[what], book.setRate(what, most[what]));
            due("setRate to the most, what it is", most[what], book.rate(what));
        }
        refused("setRate(5)", INDEX, book, b -> b.setRate(5, 5));
        refused("setRate(-1)", INDEX, book, b -> b.setRate(-1, 5));
        refused("setRate(least)", INDEX, book, b -> b.setRate(LEAST_INT, 5));
        refused("setRate(most)", INDEX, book, b -> b.setRate(MOST_INT, 5));
    }

    // ---- promise 4

    private static void fill() {
        ReaperWages book = new ReaperWages();
        for (int i = 0; i < 3; i++) {
            int coin = i;
            due("fill with one", 1, book.fill(coin, 1));
            due("fill with 500", 501, book.fill(coin, 500));
            due("fill, what is in the chest", 501, book.chest(coin));
            refused("fill with none", ARGUMENT, book, b -> b.fill(coin, 0));
            refused("fill with 501", ARGUMENT, book, b -> b.fill(coin, 501));
            refused("fill with fewer", ARGUMENT, book, b -> b.fill(coin, -1));
            refused("fill with the least", ARGUMENT, book, b -> b.fill(coin, LEAST_INT));
        }
        refused("fill(3)", INDEX, book, b -> b.fill(3, 1));
        refused("fill(-1)", INDEX, book, b -> b.fill(-1, 1));
        refused("fill(most)", INDEX, book, b -> b.fill(MOST_INT, 1));
    }

    // ---- promise 5

    private static void bind() {
        ReaperWages book = bookOf(0, 1);
        due("bind one", 1, book.bind(1, 1));
        due("bind 999", 1000, book.bind(1, 999));
        due("bind for one alone", 0, book.told(0, 1));
        due("bind, told", 1000, book.told(1, 1));
        refused("bind none", ARGUMENT, book, b -> b.bind(1, 0));
        refused("bind 1000", ARGUMENT, book, b -> b.bind(1, 1000));
        refused("bind fewer", ARGUMENT, book, b -> b.bind(1, -5));
        refused("bind for reaper 2 of 2", INDEX, book, b -> b.bind(2, 1));
        refused("bind for reaper -1", INDEX, book, b -> b.bind(-1, 1));
        refused("bind for reaper 8", INDEX, book, b -> b.bind(8, 1));
        refused("bind for the least", INDEX, book, b -> b.bind(LEAST_INT, 1));
    }

    // ---- promise 6

    private static void work() {
        ReaperWages book = bookOf(1, 1);
        due("work no hours", 0, book.work(0, 0, false));
        due("no late mark", 0, book.told(0, 3));
        due("work no hours and late", 0, book.work(0, 0, true));
        due("one late mark", 1, book.told(0, 3));
        for (int times = 1; times <= 6; times++) {
            due("work 16 hours", 16 * times, book.work(0, 16, false));
        }
        refused("work to 100 hours", STATE, book, b -> b.work(0, 4, true));
        due("work to 99 hours", 99, book.work(0, 3, true));
        due("two late marks", 2, book.told(0, 3));
        refused("work beyond 99 hours", STATE, book, b -> b.work(0, 1, true));
        due("work no more hours at 99", 99, book.work(0, 0, true));
        due("three late marks", 3, book.told(0, 3));
        refused("work 17 hours", ARGUMENT, book, b -> b.work(1, 17, false));
        refused("work fewer hours", ARGUMENT, book, b -> b.work(1, -1, true));
        refused("work the most hours", ARGUMENT, book, b -> b.work(0, MOST_INT, true));
        refused("work as reaper 2 of 2", INDEX, book, b -> b.work(2, 1, true));
        refused("work as reaper -1", INDEX, book, b -> b.work(-1, 1, true));
        due("the other has no hours", 0, book.told(1, 2));
    }

    // ---- promise 7

    private static void lend() {
        ReaperWages book = bookOf(0, 0);
        book.fill(2, 10);
        due("lend 1", 1, book.lend(1, 1));
        due("lend 2000", 2001, book.lend(1, 2000));
        due("lend 2000 more", 4001, book.lend(1, 2000));
        refused("lend to 5001", STATE, book, b -> b.lend(1, 1000));
        due("lend to 5000", 5000, book.lend(1, 999));
        refused("lend beyond 5000", STATE, book, b -> b.lend(1, 1));
        refused("lend nothing", ARGUMENT, book, b -> b.lend(1, 0));
        refused("lend 2001", ARGUMENT, book, b -> b.lend(1, 2001));
        refused("lend less", ARGUMENT, book, b -> b.lend(1, -1));
        refused("lend to reaper 2 of 2", INDEX, book, b -> b.lend(2, 1));
        refused("lend to reaper -1", INDEX, book, b -> b.lend(-1, 1));
        due("lend to one alone", 0, book.told(0, 4));
        due("lend uses no coins", 10, book.chest(2));
        due("lend is not carried on", 0, book.told(1, 5));
    }

    // ---- promise 8

    private static void pay() {
        ReaperWages book = new ReaperWages();
        due("pay nobody", 0, book.pay());
        due("pay makes the week greater", 1, book.count(0));
        book.hire(0);
        book.hire(1);
        book.bind(0, 450);
        book.bind(1, 7);
        book.work(1, 10, true);
        book.lend(0, 100);
        book.fill(0, 10);
        book.fill(1, 10);
        book.fill(2, 100);
        // 555 less 100 is 455: 3 half-crowns, 1 shilling, 11 pennies, 3 farthings; 180: 1, 1, 3.
        due("pay two", 452 + 180, book.pay());
        due("a debt below the part is taken back whole", 0, book.told(0, 4));
        due("less than a penny is carried on", 3, book.told(0, 5));
        due("paid out to 0", 452, book.told(0, 6));
        due("carried on for 1", 0, book.told(1, 5));
        due("paid out to 1", 180, book.told(1, 6));
        due("half-crowns are left", 6, book.chest(0));
        due("shillings are left", 8, book.chest(1));
        due("pennies are left", 86, book.chest(2));
        for (int what = 1; what < 4; what++) {
            due("told(0, " + what + ") of the new week", 0, book.told(0, what));
            due("told(1, " + what + ") of the new week", 0, book.told(1, what));
        }
        due("the week", 2, book.count(0));
        book.bind(0, 1);
        due("what is carried on is coming", 4, book.wage(0, 3));
        due("pay what was carried on", 4, book.pay());
        due("paid out in all", 456, book.told(0, 6));
        due("nothing is carried on", 0, book.told(0, 5));
    }

    private static void payWithFewCoins() {
        ReaperWages book = bookOf(1, 0);
        book.work(0, 10, false);
        book.bind(1, 90);
        book.fill(1, 4);
        book.fill(2, 10);
        // 200 is 4 shillings for want of half-crowns, and 2 pennies; of 108 there are 8 pennies.
        due("pay as far as there are coins", 232, book.pay());
        due("what cannot be paid is carried on", 76, book.told(1, 5));
        due("nothing is carried on for the first", 0, book.told(0, 5));
        due("no pennies are left", 0, book.chest(2));
        book.lend(1, 30);
        book.setRate(4, 3);
        due("pay without coins", 0, book.pay());
        due("a part of what was carried on is taken back", 5, book.told(1, 4));
        due("carried on less the part", 51, book.told(1, 5));
        due("the second was paid once", 32, book.told(1, 6));
    }

    // ---- promise 9

    private static void told() {
        ReaperWages book = bookOf(2, 1);
        book.bind(1, 30);
        book.work(1, 16, true);
        book.work(1, 5, true);
        book.work(1, 0, true);
        book.lend(1, 44);
        int[] first = {1, 30, 21, 3, 44, 0, 0, 19};
        dueAll("told", first, what -> book.told(1, what));
        book.fill(2, 50);
        book.pay();
        int[] then = {1, 0, 0, 0, 0, 136, 200, 0};
        dueAll("told after the week", then, what -> book.told(1, what));
        int[] other = {2, 0, 0, 0, 0, 0, 0, 0};
        dueAll("told of the other", other, what -> book.told(0, what));
        refused("told(0, 8)", INDEX, book, b -> b.told(0, 8));
        refused("told(0, -1)", INDEX, book, b -> b.told(0, -1));
        refused("told(0, most)", INDEX, book, b -> b.told(0, MOST_INT));
        refused("told(2, 0)", INDEX, book, b -> b.told(2, 0));
        refused("told(-1, 0)", INDEX, book, b -> b.told(-1, 0));
    }

    // ---- promise 10

    private static void wageByPieces() {
        ReaperWages book = bookOf(0);
        book.bind(0, 9);
        due("12 * 9 / 10", 10, book.wage(0, 0));
        book.bind(0, 391);
        due("12 * 400 / 10, just the measure", 480, book.wage(0, 0));
        book.bind(0, 1);
        due("and 12 * 1 * 125 / 1000", 481, book.wage(0, 0));
        book.bind(0, 50);
        due("and 12 * 51 * 125 / 1000", 556, book.wage(0, 0));
        book.setRate(3, 0);
        due("without a bonus", 541, book.wage(0, 0));
        book.setRate(2, 451);
        book.setRate(0, 7);
        due("7 * 451 / 10", 315, book.wage(0, 0));
        book.setRate(2, 450);
        due("7 * 450 / 10 and 7 * 1 * 100 / 1000, each cut", 315, book.wage(0, 0));
        ReaperWages much = bookOf(0);
        much.setRate(0, 40);
        much.setRate(2, 100);
        much.setRate(3, 100);
        for (int i = 0; i < 500; i++) {
            much.bind(0, 999);
        }
        due("the most sheaves", 400 + 40L * 499400 * 200 / 1000, much.wage(0, 0));
        due("the most sheaves, the wages of all", 3995600, much.count(5));
    }

    private static void wageByHours() {
        ReaperWages book = bookOf(1, 1);
        book.work(0, 1, true);
        due("half a mark docks an hour", 0, book.told(0, 7));
        book.work(0, 0, true);
        book.work(0, 0, true);
        due("not below 0", 0, book.wage(0, 1));
        book.work(0, 2, false);
        due("3 less 2", 20, book.wage(0, 1));
        for (int i = 0; i < 4; i++) {
            book.work(1, 15, false);
        }
        due("60 hours count once", 60, book.told(1, 7));
        book.work(1, 1, false);
        due("61 hours: half of one is cut", 61, book.told(1, 7));
        book.work(1, 1, false);
        due("62 hours count 63", 63, book.told(1, 7));
        book.work(1, 0, true);
        due("marks are taken off ahead of counting more", 61, book.told(1, 7));
        book.setRate(1, 99);
        due("by the rate", 99 * 61, book.wage(1, 1));
    }

    private static void wageOfAWeek() {
        ReaperWages book = bookOf(0, 1, 2, 2);
        for (int i = 0; i < 4; i++) {
            book.bind(i, 100);
            book.work(i, i == 3 ? 7 : 5, false);
        }
        int[][] parts = {
            {120, 100, 120, 120, 0, 120},
            {120, 100, 100, 100, 0, 100},
            {120, 100, 120, 120, 0, 120},
            {120, 140, 140, 140, 0, 140},
        };
        for (int i = 0; i < 4; i++) {
            int reaper = i;
            dueAll("wage of kind " + book.told(i, 0), parts[i], what -> book.wage(reaper, what));
        }
        ReaperWages slow = bookOf(0);
        slow.bind(0, 10);
        slow.work(0, 9, false);
        due("hours are nothing to the kind 0", 12, slow.wage(0, 2));
        book.pay();
        book.bind(1, 10);
        book.work(1, 3, false);
        book.lend(1, 41);
        due("coming: 60 and 100", 160, book.wage(1, 3));
        due("taken back: a part of 160", 40, book.wage(1, 4));
        due("the rest of 160", 120, book.wage(1, 5));
        book.setRate(4, 3);
        due("taken back: the debt", 41, book.wage(1, 4));
        book.setRate(4, 9);
        due("taken back: 160 / 9", 17, book.wage(1, 4));
        due("the rest less 17", 143, book.wage(1, 5));
        book.setRate(4, 1);
        book.lend(1, 200);
        due("taken back: all of 160", 160, book.wage(1, 4));
        due("no rest", 0, book.wage(1, 5));
        due("nothing was changed", 241, book.told(1, 4));
        refused("wage(0, 6)", INDEX, book, b -> b.wage(0, 6));
        refused("wage(0, -1)", INDEX, book, b -> b.wage(0, -1));
        refused("wage(4, 0)", INDEX, book, b -> b.wage(4, 0));
        refused("wage(-1, 0)", INDEX, book, b -> b.wage(-1, 0));
    }

    // ---- promise 11

    private static void chest() {
        ReaperWages book = new ReaperWages();
        book.fill(0, 3);
        book.fill(1, 4);
        book.fill(2, 5);
        int[] parts = {3, 4, 5};
        dueAll("chest", parts, book::chest);
        refused("chest(3)", INDEX, book, b -> b.chest(3));
        refused("chest(-1)", INDEX, book, b -> b.chest(-1));
        refused("chest(least)", INDEX, book, b -> b.chest(LEAST_INT));
    }

    // ---- promise 12

    private static void coins() {
        ReaperWages book = bookOf(0, 1, 2);
        book.bind(0, 450);
        book.lend(0, 200);
        book.work(1, 13, false);
        book.bind(2, 300);
        book.fill(0, 4);
        book.fill(1, 5);
        book.fill(2, 40);
        long before = book.digest();
        // 555 less 138 is 417; 260 has but one half-crown left; 360 has a shilling left, and what pennies there are.
        int[][] parts = {{3, 1, 2}, {1, 2, 11}, {0, 2, 27}};
        for (int i = 2; i >= 0; i--) {
            int reaper = i;
            dueAll("coins of " + i, parts[i], coin -> book.coins(reaper, coin));
        }
        due("coins changes nothing", before, book.digest());
        due("pay pays the same", 416 + 260 + 204, book.pay());
        refused("coins(0, 3)", INDEX, book, b -> b.coins(0, 3));
        refused("coins(0, -1)", INDEX, book, b -> b.coins(0, -1));
        refused("coins(3, 0)", INDEX, book, b -> b.coins(3, 0));
        refused("coins(-1, 0)", INDEX, book, b -> b.coins(-1, 0));
    }

    // ---- promise 13

    private static void count() {
        ReaperWages book = bookOf(0, 1);
        book.bind(0, 200);
        book.work(1, 10, false);
        book.lend(0, 20);
        book.lend(1, 300);
        book.fill(0, 1);
        book.fill(1, 2);
        book.fill(2, 3);
        int[] first = {0, 2, 320, 0, 120 + 96 + 12, 440, 0};
        dueAll("count", first, book::count);
        due("pay for count", 228, book.pay());
        int[] then = {1, 2, 250, 142, 0, 0, 228};
        dueAll("count after the week", then, book::count);
        refused("count(7)", INDEX, book, b -> b.count(7));
        refused("count(-1)", INDEX, book, b -> b.count(-1));
        refused("count(most)", INDEX, book, b -> b.count(MOST_INT));
    }

    // ---- promise 14

    private static void rate() {
        ReaperWages book = new ReaperWages();
        int[] first = {12, 20, 400, 25, 4};
        dueAll("rate", first, book::rate);
        book.setRate(2, 150);
        book.setRate(4, 5);
        int[] then = {12, 20, 150, 25, 5};
        dueAll("rate then", then, book::rate);
        refused("rate(5)", INDEX, book, b -> b.rate(5));
        refused("rate(-1)", INDEX, book, b -> b.rate(-1));
    }

    // ---- promise 15

    private static void would() {
        ReaperWages book = bookOf(0, 1, 2);
        book.bind(0, 450);
        book.work(1, 10, false);
        book.bind(2, 200);
        book.work(2, 11, false);
        book.lend(0, 50);
        long before = book.digest();
        due("the wages of all", 555 + 200 + 240, book.count(5));
        due("would, by pieces at 10", 462 + 200 + 220, book.would(0, 10));
        due("would, by hours at 30", 555 + 300 + 330, book.would(1, 30));
        due("would, a measure of 100", 120 + 525 + 200 + 270, book.would(2, 100));
        due("would, a bonus of 0", 540 + 200 + 240, book.would(3, 0));
        due("would, a part of 9", 555 + 200 + 240, book.would(4, 9));
        due("would changes nothing", before, book.digest());
        due("would of one rate leaves no other one behind", 995, book.would(4, 1));
        int[] least = {1, 1, 100, 0, 1};
        int[] most = {40, 99, 900, 100, 9};
        for (int i = 0; i < 5; i++) {
            int what = i;
            refused("would below", ARGUMENT, book, b -> b.would(what, least[what] - 1));
            refused("would above", ARGUMENT, book, b -> b.would(what, most[what] + 1));
            book.would(what, least[what]);
            book.would(what, most[what]);
        }
        refused("would(5)", INDEX, book, b -> b.would(5, 5));
        refused("would(-1)", INDEX, book, b -> b.would(-1, 5));
        due("would for nobody", 0, new ReaperWages().would(0, 40));
    }

    // ---- promise 16

    private static void until() {
        ReaperWages book = bookOf(0, 1);
        due("until without a debt", 0, book.until(0));
        book.lend(0, 10);
        due("until without a wage", -1, book.until(0));
        book.bind(0, 33);
        due("39 / 4 is 9", 2, book.until(0));
        book.bind(0, 1);
        due("40 / 4 is 10", 1, book.until(0));
        book.pay();
        due("paid back by what is coming", 0, book.told(0, 4));
        due("carried on for want of coins", 30, book.told(0, 5));
        book.lend(0, 12);
        due("what is carried on counts in the first week alone", -1, book.until(0));
        book.bind(0, 10);
        due("42 / 4, then 12 / 4", 2, book.until(0));
        book.lend(0, 4);
        due("42 / 4, 12 / 4, 12 / 4", 3, book.until(0));
        long before = book.digest();
        book.until(0);
        due("until changes nothing", before, book.digest());
        refused("until(2)", INDEX, book, b -> b.until(2));
        refused("until(-1)", INDEX, book, b -> b.until(-1));
    }

    private static void untilAtMost99() {
        ReaperWages book = bookOf(1);
        book.setRate(1, 9);
        book.setRate(4, 9);
        book.work(0, 1, false);
        book.lend(0, 98);
        due("until 98", 98, book.until(0));
        book.lend(0, 1);
        due("until 99", 99, book.until(0));
        book.lend(0, 1);
        due("until 100 is not by then", -1, book.until(0));
    }

    // ---- promise 17

    private static void lacks() {
        ReaperWages book = bookOf(0, 0, 1);
        due("lacks nothing", 0, book.lacks());
        book.bind(0, 3);
        book.bind(1, 3);
        due("3 farthings each are no penny", 0, book.lacks());
        book.bind(0, 60);
        book.bind(1, 63);
        // 75 and 79: 18 and 19 pennies.
        due("lacks pennies for both", 37, book.lacks());
        book.fill(1, 1);
        due("a shilling for the first", 37 - 12, book.lacks());
        book.fill(2, 20);
        due("20 pennies", 5, book.lacks());
        book.fill(0, 1);
        due("a half-crown for nobody", 5, book.lacks());
        book.work(2, 6, false);
        due("a half-crown for the third", 5, book.lacks());
        book.lend(1, 10);
        due("a debt is taken back ahead", 3, book.lacks());
        long before = book.digest();
        book.lacks();
        due("lacks changes nothing", before, book.digest());
        book.fill(2, 2);
        due("one lacks", 1, book.lacks());
        book.fill(2, 1);
        due("none lacks", 0, book.lacks());
        book.fill(2, 9);
        due("more than enough", 0, book.lacks());
    }

    // ---- promise 18

    private static void advise() {
        due("advise for nobody", 1, new ReaperWages().advise());
        ReaperWages book = bookOf(0, 1);
        book.bind(0, 21);
        book.work(1, 2, false);
        due("25 by 2 hours: 12 and 13 are as even, the smaller one", 12, book.advise());
        book.bind(1, 1);
        due("26 by 2 hours, whatever the kinds", 13, book.advise());
        book.setRate(1, 50);
        due("whatever the rate is", 13, book.advise());
        due("advise changes no rate", 50, book.rate(1));
        book.bind(0, 999);
        due("at most 99", 99, book.advise());
        ReaperWages few = bookOf(0);
        few.work(0, 10, false);
        due("1 at least", 1, few.advise());
        few.bind(0, 800);
        due("480 and 600 by 10 hours is above 99", 99, few.advise());
        few.work(0, 2, false);
        due("1080 by 12 hours", 90, few.advise());
        few.work(0, 0, true);
        due("1080 by 11 hours", 98, few.advise());
        few.hire(2);
        few.work(1, 16, false);
        due("1080 by 11 and 16 hours", 40, few.advise());
        ReaperWages cheap = bookOf(1);
        cheap.bind(0, 10);
        cheap.work(0, 6, false);
        due("12 by 6 hours", 2, cheap.advise());
        ReaperWages noHours = bookOf(2);
        noHours.bind(0, 500);
        due("all are as even without hours", 1, noHours.advise());
    }

    // ---- promise 19

    private static void mean() {
        dueMean("mean of nobody", 0.0, new ReaperWages().mean());
        ReaperWages book = bookOf(1, 0, 2);
        dueMean("mean of nothing", 0.0, book.mean());
        book.bind(1, 1);
        dueMean("mean of 1 for three", 1.0 / 3.0, book.mean());
        book.work(0, 2, false);
        dueMean("mean of 41 for three", 41.0 / 3.0, book.mean());
        book.hire(0);
        dueMean("mean of 41 for four", 10.25, book.mean());
        book.pay();
        dueMean("mean of a new week, with what is carried on", 0.0, book.mean());
    }

    // ---- promise 20

    private static void digest() {
        due("digest of a new book", digestOf(new ReaperWages()), new ReaperWages().digest());
        ReaperWages book = bookOf(0, 2, 1);
        due("digest of idle reapers", digestOf(book), book.digest());
        book.bind(0, 450);
        book.work(1, 16, true);
        book.work(2, 8, false);
        book.lend(2, 77);
        book.fill(0, 2);
        book.fill(1, 3);
        book.fill(2, 20);
        due("digest of a week", digestOf(book), book.digest());
        due("digest once more", digestOf(book), book.digest());
        book.pay();
        due("digest of the next week", digestOf(book), book.digest());
    }

    private static long digestOf(ReaperWages book) {
        long d = 1657;
        for (int what = 0; what <= 6; what++) d = d * 31 + book.count(what);
        for (int what = 0; what <= 4; what++) d = d * 31 + book.rate(what);
        for (int coin = 0; coin <= 2; coin++) d = d * 31 + book.chest(coin);
        for (int reaper = 0; reaper < book.count(1); reaper++) {
            for (int what = 0; what <= 7; what++) d = d * 31 + book.told(reaper, what);
            for (int what = 0; what <= 5; what++) d = d * 31 + book.wage(reaper, what);
            for (int coin = 0; coin <= 2; coin++) d = d * 31 + book.coins(reaper, coin);
        }
        return d;
    }

    // ---- terms: the exception that is named first

    private static void exceptionsInTheirOrder() {
        ReaperWages book = bookOf(0);
        for (int i = 0; i < 6; i++) {
            book.work(0, 16, false);
        }
        book.lend(0, 2000);
        book.lend(0, 2000);
        book.lend(0, 1000);
        refused("setRate of no rate to nothing", INDEX, book, b -> b.setRate(5, -1));
        refused("fill of no coin with none", INDEX, book, b -> b.fill(3, 0));
        refused("bind for nobody, none", INDEX, book, b -> b.bind(1, 0));
        refused("work of nobody, 17", INDEX, book, b -> b.work(1, 17, true));
        refused("work of 17 beyond 99", ARGUMENT, book, b -> b.work(0, 17, true));
        refused("lend to nobody, nothing", INDEX, book, b -> b.lend(1, 0));
        refused("lend 2001 beyond 5000", ARGUMENT, book, b -> b.lend(0, 2001));
        refused("would of no rate to nothing", INDEX, book, b -> b.would(-1, -1));
    }

    private static void fullBook() {
        ReaperWages book = bookOf(0, 0, 0, 0, 0, 0, 0, 0);
        for (int i = 0; i < 8; i++) {
            book.bind(i, 10 * (i + 1));
            book.work(i, 1, false);
            book.lend(i, 3);
        }
        due("the wages of eight", 12 * 36, book.count(5));
        due("the debts of eight", 24, book.count(2));
        due("would of eight", 36, book.would(0, 1));
        due("advise of eight", 54, book.advise());
        due("mean of eight", 54, (long) book.mean());
        // Each has 12 for each ten sheaves, less 3.
        due("lacks of eight", 3 * 36 - 8, book.lacks());
        book.fill(2, 100);
        due("coins of the eighth", 23, book.coins(7, 2));
        due("until of the eighth", 1, book.until(7));
        due("digest of eight", digestOf(book), book.digest());
        due("pay eight", 4 * (3 * 36 - 8), book.pay());
        due("carried on for eight", 8, book.count(3));
        refused("told of a ninth", INDEX, book, b -> b.told(8, 0));
        refused("wage of a ninth", INDEX, book, b -> b.wage(8, 0));
        refused("coins of a ninth", INDEX, book, b -> b.coins(8, 0));
        refused("until of a ninth", INDEX, book, b -> b.until(8));
        refused("bind of a ninth", INDEX, book, b -> b.bind(8, 1));
        refused("work of a ninth", INDEX, book, b -> b.work(8, 1, false));
        refused("lend to a ninth", INDEX, book, b -> b.lend(8, 1));
    }

    /** The answers that README.md tells of its example. */
    private static void exampleOfTheReadme() {
        ReaperWages book = new ReaperWages();
        int reaper = book.hire(0);
        due("README, the reaper", 0, reaper);
        book.bind(reaper, 450);
        book.lend(reaper, 100);
        book.fill(0, 5);
        book.fill(2, 40);
        due("README, the wage", 555, book.wage(reaper, 2));
        due("README, what is taken back", 100, book.wage(reaper, 4));
        due("README, half-crowns", 3, book.coins(reaper, 0));
        due("README, pennies", 23, book.coins(reaper, 2));
        due("README, what goes out", 452, book.pay());
        due("README, what is carried on", 3, book.told(reaper, 5));
    }

    /** What is answered then is free, but nothing that the document does not name may be thrown. */
    private static void farBeyondTheLastCall() {
        ReaperWages book = bookOf(0, 1, 2);
        book.setRate(0, 40);
        book.setRate(4, 1);
        book.lend(2, 2000);
        for (int i = 0; i < 2200000; i++) {
            book.bind(2, 999);
            book.fill(i % 3, 500);
            if (i % 3000 == 0) {
                book.lacks();
                book.until(2);
                book.advise();
                book.mean();
                book.digest();
            }
            if (i % 400000 == 399999) {
                book.pay();
            }
        }
        refused("told of no reaper", INDEX, book, b -> b.told(3, 0));
    }

    // ---- what the tests are told with

    private interface Told {
        int at(int what);
    }

    private static ReaperWages bookOf(int... kinds) {
        ReaperWages book = new ReaperWages();
        for (int kind : kinds) {
            book.hire(kind);
        }
        return book;
    }

    private static void due(String what, long due, long got) {
        if (due != got) {
            wrong++;
            System.out.println(what + ": answered " + got + ", due is " + due);
        }
    }

    private static void dueAll(String what, int[] due, Told told) {
        for (int i = 0; i < due.length; i++) {
            due(what + " at " + i, due[i], told.at(i));
        }
    }

    private static void dueMean(String what, double due, double got) {
        if (due != got) {
            wrong++;
            System.out.println(what + ": answered " + got + ", due is " + due);
        }
    }

    /** The call throws just this class (no subclass, which would be the machine's own) and changes nothing. */
    private static void refused(String what, Class<?> due, ReaperWages book, Call call) {
        long before = book.digest();
        Class<?> got = null;
        try {
            call.on(book);
        } catch (RuntimeException e) {
            got = e.getClass();
        }
        if (got != due) {
            wrong++;
            System.out.println(what + ": threw " + got + ", due is " + due);
        }
        due(what + " changes nothing", before, book.digest());
    }
}
