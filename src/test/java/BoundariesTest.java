import java.math.BigInteger;

/**
 * Each sentence of the document that names a boundary case has a test of its own here. The comment ahead of a test
 * is that sentence; the test stands on both sides of the boundary. No object is asked more than 512 calls.
 */
public final class BoundariesTest {
    private interface Call {
        void on(ReaperWages book);
    }

    private interface CallAt {
        void on(ReaperWages book, int at);
    }

    private static final Class<?> INDEX = IndexOutOfBoundsException.class;
    private static final Class<?> ARGUMENT = IllegalArgumentException.class;
    private static final Class<?> STATE = IllegalStateException.class;
    private static final int LEAST_INT = Integer.MIN_VALUE;
    private static final int MOST_INT = Integer.MAX_VALUE;
    private static final int[] FIRST_RATE = {12, 20, 400, 25, 4};
    private static final int[] LEAST_RATE = {1, 1, 100, 0, 1};
    private static final int[] MOST_RATE = {40, 99, 900, 100, 9};
    private static final int[] COIN_WORTH = {120, 48, 4};
    private static final long EMPTY_DIGEST = 2642386453323344244L;

    private static int wrong = 0;

    public static void main(String[] args) {
        termsOfReapers();
        termsOfWages();
        termsOfPaying();
        termsOfRefusals();
        reapersRatesAndTheChest();
        whatThereIs();
        whatWouldBe();
        System.out.println(wrong == 0 ? "all boundaries hold" : wrong + " answers are wrong");
        if (wrong != 0) {
            System.exit(1);
        }
    }

    private static void termsOfReapers() {
        emptyBook();
        atMostEightReapers();
        allIsNothingAtFirst();
        ratesAtFirst();
    }

    private static void termsOfWages() {
        sheavesAreCutForTen();
        sheavesUpToTheMeasure();
        eachIsCutThenAdded();
        noWrapOfTheMostSheaves();
        halfOfTheLateMarksRoundedUp();
        hoursAreNotBelowNothing();
        theMostLateMarks();
        hoursBeyondSixty();
        sixtySuchHours();
        theGreaterOneOfBoth();
    }

    private static void termsOfPaying() {
        theLeastIsTakenBack();
        carriedOnIsComing();
        eachCoinAsManyAsGo();
        tooFewCoins();
        reaperByReaper();
        theEighthIsPaidLast();
        theWeekIsEmptiedThoughNothingIsPaid();
        theWeekIsOneGreater();
        whatStaysAfterAWeek();
        theGreatestWage();
    }

    private static void termsOfRefusals() {
        refusedCallsChangeNothing();
        theExceptionNamedFirst();
        askingChangesNothing();
    }

    private static void reapersRatesAndTheChest() {
        kindsOfAReaper();
        ratesThatCanBe();
        noSuchRate();
        fillOneTo500();
        noSuchCoin();
        bindOneTo999();
        workNothingTo16();
        workAtMost99();
        lendOneTo2000();
        lendAtMost5000();
        noSuchReaper();
    }

    private static void whatThereIs() {
        nothingBeyondWhatIsTold();
        paidOutOfNothing();
        countOfNobodyAndOfAFullBook();
        theFullestChest();
    }

    private static void whatWouldBe() {
        wouldAtTheEdgesOfRates();
        wouldAcrossTheMeasure();
        wouldTurnsTheGreaterOne();
        untilByNumbers();
        untilWithWhatIsCarriedOn();
        untilIsOfTheReaperAlone();
        lacksForOne();
        lacksForTwo();
        lacksIsTheLeastThatIsEnough();
        adviseBySums();
        adviseWhateverTheKinds();
        meanWithoutReapers();
        digestOfAnEmptyBook();
        digestWithAReaper();
        digestOfAFullBook();
    }

    // ---- terms: reapers, rates

    /** "Creates an empty book, in the week 0." */
    private static void emptyBook() {
        ReaperWages book = new ReaperWages();
        dueRow("an empty book, count", new int[] {0, 0, 0, 0, 0, 0, 0}, countsOf(book));
        due("an empty book, pay", 0, book.pay());
        due("an empty book, the week then", 1, book.count(0));
        due("an empty book, lacks", 0, book.lacks());
        due("an empty book, advise", 1, book.advise());
        dueMean("an empty book, mean", 0.0, book.mean());
        for (int what = 0; what < 5; what++) {
            due("an empty book, would", 0, book.would(what, MOST_RATE[what]));
        }
        due("the first of the book", 0, book.hire(2));
    }

    /** "At most 8, numbered from 0"; "Throws IllegalStateException if there are 8". */
    private static void atMostEightReapers() {
        ReaperWages book = new ReaperWages();
        for (int i = 0; i < 8; i++) {
            int next = i;
            refused("reaper " + i + " is not there ahead of hire", INDEX, book, b -> b.told(next, 0));
            due("hire, the number", i, book.hire(i % 3));
            due("hire, the kind", i % 3, book.told(i, 0));
            due("hire, how many", i + 1, book.count(1));
        }
        for (int kind = 0; kind < 3; kind++) {
            int ofKind = kind;
            refused("hire the ninth", STATE, book, b -> b.hire(ofKind));
        }
        book.pay();
        refused("hire the ninth in the next week", STATE, book, b -> b.hire(0));
        due("there are 8 still", 8, book.count(1));
        refused("the ninth is not there", INDEX, book, b -> b.told(8, 0));
    }

    /** "sheaves, hours and late marks of the week (0, at first), a debt, what is carried on, and what was paid". */
    private static void allIsNothingAtFirst() {
        ReaperWages book = bookOf(0);
        book.bind(0, 999);
        book.work(0, 16, true);
        book.lend(0, 2000);
        book.fill(2, 50);
        book.pay();
        book.bind(0, 5);
        for (int i = 1; i < 8; i++) {
            book.hire(2);
            dueRow("a new reaper, told", new int[] {2, 0, 0, 0, 0, 0, 0, 0}, toldOf(book, i));
            dueRow("a new reaper, wage", new int[] {0, 0, 0, 0, 0, 0}, wagesOf(book, i));
            dueRow("a new reaper, coins", new int[] {0, 0, 0}, coinsOf(book, i));
            due("a new reaper, until", 0, book.until(i));
        }
    }

    /** "(12, at first) .. (20, at first) .. (400, at first) .. (25, at first) .. (4, at first)", "(0 of each)". */
    private static void ratesAtFirst() {
        ReaperWages used = bookOf(0);
        for (int what = 0; what < 5; what++) {
            used.setRate(what, MOST_RATE[what]);
        }
        used.fill(0, 1);
        ReaperWages book = new ReaperWages();
        for (int what = 0; what < 5; what++) {
            due("the first rate " + what, FIRST_RATE[what], book.rate(what));
            due("what the first rate was", FIRST_RATE[what], book.setRate(what, LEAST_RATE[what]));
        }
        dueRow("the first chest", new int[] {0, 0, 0}, chestOf(book));
    }

    // ---- terms: wages

    /** "A rate by pieces .. farthings for 10 sheaves"; "/ is cut towards 0". */
    private static void sheavesAreCutForTen() {
        int[][] rows = {{1, 1, 0}, {1, 9, 0}, {1, 10, 1}, {1, 19, 1}, {1, 20, 2}, {40, 1, 4}, {3, 3, 0}, {3, 4, 1}, {7, 13, 9}};
        for (int[] row : rows) {
            ReaperWages book = bookOf(0);
            book.setRate(0, row[0]);
            book.bind(0, row[1]);
            due(row[1] + " sheaves by " + row[0], row[2], book.wage(0, 0));
        }
    }

    /** "the sheaves up to the measure .. the sheaves beyond it". Rows: the measure, sheaves, by 40 and 100 percent. */
    private static void sheavesUpToTheMeasure() {
        int[][] rows = {
            {100, 99, 396}, {100, 100, 400}, {100, 101, 408}, {100, 102, 416},
            {900, 899, 3596}, {900, 900, 3600}, {900, 901, 3608},
            {400, 399, 1596}, {400, 400, 1600}, {400, 401, 1608}, {400, 0, 0},
        };
        for (int[] row : rows) {
            ReaperWages book = bookOf(0);
            book.setRate(0, 40);
            book.setRate(2, row[0]);
            book.setRate(3, 100);
            bindAll(book, 0, row[1]);
            due(row[1] + " sheaves, the measure " + row[0], row[2], book.wage(0, 0));
            book.setRate(3, 0);
            due(row[1] + " sheaves without a bonus", 4 * row[1], book.wage(0, 0));
        }
    }

    /** "each cut, added". Rows: rate, measure, bonus, sheaves, wage. */
    private static void eachIsCutThenAdded() {
        int[][] rows = {
            // 70.7 and 0.875; 70.7 and 1.75; 48.4 and 0.66; 100.5 and 0.5.
            {7, 101, 25, 102, 70}, {7, 101, 25, 103, 71}, {4, 121, 65, 122, 48}, {5, 201, 0, 202, 100},
            // 10.1 and 0.999; 10.1 and 1.1.
            {1, 101, 11, 110, 10}, {1, 101, 10, 111, 11},
        };
        for (int[] row : rows) {
            ReaperWages book = bookOf(0);
            book.setRate(0, row[0]);
            book.setRate(2, row[1]);
            book.setRate(3, row[2]);
            bindAll(book, 0, row[3]);
            due(row[3] + " sheaves by " + row[0] + " with " + row[2] + " percent beyond " + row[1], row[4], book.wage(0, 0));
        }
    }

    /** "All numbers are whole": 40 * 268436 * 200 is beyond 31 bits, and the wage is what it is all the same. */
    private static void noWrapOfTheMostSheaves() {
        ReaperWages book = bookOf(0);
        book.setRate(0, 40);
        book.setRate(2, 100);
        book.setRate(3, 100);
        bindAll(book, 0, 100 + 268435);
        due("the last product of 31 bits", 400 + 268435 * 8, book.wage(0, 0));
        book.bind(0, 1);
        due("the first product beyond", 400 + 268436 * 8, book.wage(0, 0));
        bindAll(book, 0, 150000);
        int wage = 400 + 418436 * 8;
        dueRow("far beyond", new int[] {wage, 0, wage, wage, 0, wage}, wagesOf(book, 0));
        due("far beyond, the wages of all", wage, book.count(5));
        dueMean("far beyond, mean", wage, book.mean());
        due("far beyond, lacks", wage / 4, book.lacks());
        due("far beyond, advise", 1, book.advise());
        book.work(0, 16, false);
        due("far beyond, advise with hours", 99, book.advise());
        book.setRate(0, 1);
        due("far beyond, by 1", 10 + 418436 / 5, book.count(5));
        due("far beyond, would", wage, book.would(0, 40));
        book.lend(0, 2000);
        due("far beyond, until", 1, book.until(0));
    }

    /** "the hours less half (rounded up) of the late marks". Rows: marks, hours that count of 10. */
    private static void halfOfTheLateMarksRoundedUp() {
        int[] counted = {10, 9, 9, 8, 8, 7, 7, 6};
        ReaperWages book = bookOf(1);
        book.work(0, 10, false);
        for (int marks = 0; marks < counted.length; marks++) {
            due("marks", marks, book.told(0, 3));
            due("10 hours with " + marks + " marks", counted[marks], book.told(0, 7));
            due("the hours are told undocked", 10, book.told(0, 2));
            due("the wage by hours with " + marks + " marks", 20 * counted[marks], book.wage(0, 1));
            book.work(0, 0, true);
        }
    }

    /** "0 at least". Rows: hours, marks, hours that count. */
    private static void hoursAreNotBelowNothing() {
        int[][] rows = {{0, 0, 0}, {0, 1, 0}, {0, 5, 0}, {1, 1, 0}, {1, 2, 0}, {1, 3, 0}, {2, 3, 0}, {2, 2, 1}, {5, 9, 0}, {5, 8, 1}, {5, 100, 0}};
        for (int[] row : rows) {
            ReaperWages book = bookOf(1, 2);
            for (int i = 0; i < 2; i++) {
                workAll(book, i, row[0]);
                comeLate(book, i, row[1]);
                due(row[0] + " hours with " + row[1] + " marks", row[2], book.told(i, 7));
                due("their wage", 20 * row[2], book.wage(i, 1));
                due("the wage", 20 * row[2], book.wage(i, 2));
                due("what is coming", 20 * row[2], book.wage(i, 3));
            }
        }
    }

    /** The marks of a week have no bound of their own: each two dock an hour more, down to nothing. */
    private static void theMostLateMarks() {
        ReaperWages book = bookOf(1);
        workAll(book, 0, 99);
        for (int marks = 1; marks <= 400; marks++) {
            book.work(0, 0, true);
            if (marks % 50 == 0 || marks > 195 && marks < 200) {
                int left = Math.max(0, 99 - (marks + 1) / 2);
                due("marks", marks, book.told(0, 3));
                due("99 hours with " + marks + " marks", left <= 60 ? left : left + (left - 60) / 2, book.told(0, 7));
            }
        }
    }

    /** "beyond 60 such hours each counts one and a half: half of them (cut) more". Rows: hours, those that count. */
    private static void hoursBeyondSixty() {
        int[][] rows = {{59, 59}, {60, 60}, {61, 61}, {62, 63}, {63, 64}, {64, 66}, {98, 117}, {99, 118}};
        for (int[] row : rows) {
            ReaperWages book = bookOf(1);
            workAll(book, 0, row[0]);
            due(row[0] + " hours", row[1], book.told(0, 7));
            due("the wage of " + row[0] + " hours", 20 * row[1], book.wage(0, 1));
            book.setRate(1, 99);
            due("the wage by 99", 99 * row[1], book.wage(0, 1));
            due("would by 1", row[1], book.would(1, 1));
        }
    }

    /** "60 such hours": those that are left of the late marks. Rows: hours, marks, those that count. */
    private static void sixtySuchHours() {
        int[][] rows = {{61, 1, 60}, {61, 2, 60}, {62, 1, 61}, {63, 1, 63}, {63, 2, 63}, {63, 3, 61}, {64, 3, 63}, {99, 78, 60}, {99, 77, 60}, {99, 76, 61}, {99, 74, 63}};
        for (int[] row : rows) {
            ReaperWages book = bookOf(1);
            workAll(book, 0, row[0]);
            comeLate(book, 0, row[1]);
            due(row[0] + " hours with " + row[1] + " marks", row[2], book.told(0, 7));
        }
    }

    /** "Of the kind 2 the greater one of both." Rows: farthings by pieces, hours at 20, the greater one. */
    private static void theGreaterOneOfBoth() {
        int[][] rows = {{0, 0, 0}, {0, 1, 20}, {19, 1, 20}, {20, 1, 20}, {21, 1, 21}, {21, 0, 21}, {1199, 60, 1200}, {1201, 60, 1201}};
        for (int[] row : rows) {
            ReaperWages book = plainBookOf(2, 0, 1);
            for (int i = 0; i < 3; i++) {
                bindAll(book, i, row[0]);
                workAll(book, i, row[1]);
            }
            due("of " + row[0] + " and " + row[1] + " hours, kind 2", row[2], book.wage(0, 2));
            due("of " + row[0] + " and " + row[1] + " hours, kind 0", row[0], book.wage(1, 2));
            due("of " + row[0] + " and " + row[1] + " hours, kind 1", 20 * row[1], book.wage(2, 2));
            due("the wages of all", row[2] + row[0] + 20 * row[1], book.count(5));
        }
    }

    // ---- terms: paying

    /** "the least of these is taken back: the debt, and a part of what is coming". Rows: debt, part, coming, taken. */
    private static void theLeastIsTakenBack() {
        int[][] rows = {
            {10, 4, 39, 9}, {10, 4, 40, 10}, {10, 4, 41, 10}, {10, 4, 43, 10}, {10, 4, 44, 10},
            {11, 4, 43, 10}, {11, 4, 44, 11}, {12, 4, 44, 11},
            {9, 1, 10, 9}, {10, 1, 10, 10}, {11, 1, 10, 10}, {1, 1, 1, 1},
            {5, 9, 8, 0}, {5, 9, 9, 1}, {5, 9, 17, 1}, {5, 9, 18, 2},
            {5, 4, 3, 0}, {5, 1, 0, 0}, {0, 1, 100, 0}, {0, 4, 0, 0},
        };
        for (int[] row : rows) {
            ReaperWages book = plainBookOf(0);
            book.setRate(4, row[1]);
            bindAll(book, 0, row[2]);
            lendAll(book, 0, row[0]);
            String what = "a debt of " + row[0] + ", a part of 1/" + row[1] + ", " + row[2] + " coming: ";
            due(what + "coming", row[2], book.wage(0, 3));
            due(what + "taken back", row[3], book.wage(0, 4));
            due(what + "the rest", row[2] - row[3], book.wage(0, 5));
            book.fill(2, 500);
            book.pay();
            due(what + "the debt then", row[0] - row[3], book.told(0, 4));
            due(what + "carried on then", (row[2] - row[3]) % 4, book.told(0, 5));
        }
    }

    /** "The wage, and what was carried on, are what one has coming." */
    private static void carriedOnIsComing() {
        ReaperWages book = plainBookOf(0);
        book.bind(0, 3);
        due("3 are too few for a coin", 0, book.pay());
        due("a new week without a wage, coming", 3, book.wage(0, 3));
        due("what is carried on is no wage", 0, book.wage(0, 2));
        due("what is carried on is no wage of all", 0, book.count(5));
        book.fill(2, 2);
        due("3 are too few for a penny", 0, book.pay());
        due("3 are carried on again", 3, book.told(0, 5));
        book.bind(0, 1);
        book.lend(0, 2);
        due("a part of what is coming, not of the wage", 1, book.wage(0, 4));
        due("3 are left of 4", 0, book.pay());
        book.bind(0, 2);
        due("5 less 1", 4, book.pay());
        dueRow("told then", new int[] {0, 0, 0, 0, 0, 0, 4, 0}, toldOf(book, 0));
    }

    /** "each as many as go, from the greatest one on; what is left, less than 4, is carried on". */
    private static void eachCoinAsManyAsGo() {
        // Rows: the rest, half-crowns, shillings, pennies, carried on.
        int[][] rows = {
            {0, 0, 0, 0, 0}, {1, 0, 0, 0, 1}, {3, 0, 0, 0, 3}, {4, 0, 0, 1, 0}, {5, 0, 0, 1, 1}, {7, 0, 0, 1, 3}, {8, 0, 0, 2, 0},
            {47, 0, 0, 11, 3}, {48, 0, 1, 0, 0}, {51, 0, 1, 0, 3}, {52, 0, 1, 1, 0}, {95, 0, 1, 11, 3}, {96, 0, 2, 0, 0},
            {119, 0, 2, 5, 3}, {120, 1, 0, 0, 0}, {123, 1, 0, 0, 3}, {124, 1, 0, 1, 0}, {144, 1, 0, 6, 0}, {168, 1, 1, 0, 0},
            {239, 1, 2, 5, 3}, {240, 2, 0, 0, 0},
        };
        for (int[] row : rows) {
            duePaid(new int[] {9, 9, 99}, row[0], new int[] {row[1], row[2], row[3]}, row[4]);
        }
    }

    /** "A coin of which the chest has too few is paid as far as there are some, the rest in smaller ones; .." */
    private static void tooFewCoins() {
        // Rows: the chest, the rest, half-crowns, shillings, pennies, carried on.
        int[][] rows = {
            {0, 0, 0, 4, 0, 0, 0, 4}, {0, 0, 0, 500, 0, 0, 0, 500},
            {1, 9, 99, 240, 1, 2, 6, 0}, {0, 9, 99, 240, 0, 5, 0, 0}, {0, 1, 99, 240, 0, 1, 48, 0},
            {0, 0, 59, 240, 0, 0, 59, 4}, {0, 0, 60, 240, 0, 0, 60, 0}, {0, 0, 61, 240, 0, 0, 60, 0},
            {2, 0, 0, 240, 2, 0, 0, 0}, {2, 0, 0, 359, 2, 0, 0, 119}, {3, 0, 0, 119, 0, 0, 0, 119},
            {0, 9, 0, 47, 0, 0, 0, 47}, {0, 9, 0, 95, 0, 1, 0, 47}, {0, 2, 0, 96, 0, 2, 0, 0}, {0, 1, 0, 96, 0, 1, 0, 48},
            {1, 1, 1, 175, 1, 1, 1, 3}, {1, 1, 1, 500, 1, 1, 1, 328}, {1, 1, 0, 172, 1, 1, 0, 4}, {1, 0, 9, 172, 1, 0, 9, 16},
            {0, 0, 1, 4, 0, 0, 1, 0}, {0, 0, 1, 8, 0, 0, 1, 4},
        };
        for (int[] row : rows) {
            duePaid(new int[] {row[0], row[1], row[2]}, row[3], new int[] {row[4], row[5], row[6]}, row[7]);
        }
    }

    private static void duePaid(int[] chest, int rest, int[] coins, int carriedOn) {
        ReaperWages book = plainBookOf(0);
        fillAll(book, chest);
        bindAll(book, 0, rest);
        String what = rest + " out of " + chest[0] + ", " + chest[1] + ", " + chest[2] + ": ";
        dueRow(what + "coins", coins, coinsOf(book, 0));
        due(what + "lacks", carriedOn / 4, book.lacks());
        due(what + "pay", rest - carriedOn, book.pay());
        due(what + "carried on", carriedOn, book.told(0, 5));
        due(what + "paid in all", rest - carriedOn, book.told(0, 6));
        for (int coin = 0; coin < 3; coin++) {
            due(what + "the chest at " + coin, chest[coin] - coins[coin], book.chest(coin));
        }
    }

    /** "Paying a week, reaper by reaper": the first one takes the last coin, and coins() knows it. */
    private static void reaperByReaper() {
        for (int coin = 0; coin < 3; coin++) {
            ReaperWages book = plainBookOf(0, 0, 0);
            bindAll(book, 1, COIN_WORTH[coin]);
            bindAll(book, 2, COIN_WORTH[coin]);
            book.fill(coin, 1);
            due("the first has nothing coming", 0, book.coins(0, coin));
            due("the second takes the last", 1, book.coins(1, coin));
            due("none is left for the third", 0, book.coins(2, coin));
            due("the last coin is paid", COIN_WORTH[coin], book.pay());
            due("nothing is carried on for the second", 0, book.told(1, 5));
            due("all is carried on for the third", COIN_WORTH[coin], book.told(2, 5));
            book.fill(coin, 1);
            due("the third takes the last in the next week", 1, book.coins(2, coin));
        }
        ReaperWages two = plainBookOf(0, 0);
        bindAll(two, 0, 240);
        bindAll(two, 1, 240);
        fillAll(two, new int[] {3, 1, 17});
        dueRow("two half-crowns for the first", new int[] {2, 0, 0}, coinsOf(two, 0));
        dueRow("what is left for the second", new int[] {1, 1, 17}, coinsOf(two, 1));
    }

    /** "reaper by reaper", in a full book. */
    private static void theEighthIsPaidLast() {
        ReaperWages book = plainBookOf(0, 0, 0, 0, 0, 0, 0, 0);
        for (int i = 0; i < 8; i++) {
            book.bind(i, 4);
        }
        book.fill(2, 7);
        for (int i = 0; i < 8; i++) {
            due("a penny for " + i, i == 7 ? 0 : 1, book.coins(i, 2));
        }
        due("one lacks for the eighth", 1, book.lacks());
        book.fill(2, 1);
        due("the eighth penny", 1, book.coins(7, 2));
        due("none lacks for the eighth", 0, book.lacks());
        due("pay eight", 32, book.pay());
        due("the eighth was paid", 4, book.told(7, 6));
        due("the chest is empty", 0, book.chest(2));
    }

    /** "Sheaves, hours and late marks are 0 then", of all, and though the chest is empty. */
    private static void theWeekIsEmptiedThoughNothingIsPaid() {
        ReaperWages book = plainBookOf(0, 1, 2, 0);
        for (int i = 0; i < 3; i++) {
            book.bind(i, 30);
            book.work(i, 1, false);
            comeLate(book, i, 1);
        }
        due("pay out of an empty chest", 0, book.pay());
        dueRow("kind 0", new int[] {0, 0, 0, 0, 0, 30, 0, 0}, toldOf(book, 0));
        dueRow("kind 1, docked to nothing", new int[] {1, 0, 0, 0, 0, 0, 0, 0}, toldOf(book, 1));
        dueRow("kind 2", new int[] {2, 0, 0, 0, 0, 30, 0, 0}, toldOf(book, 2));
        dueRow("an idle one", new int[] {0, 0, 0, 0, 0, 0, 0, 0}, toldOf(book, 3));
        due("one mark of the new week docks one hour", 1, book.work(1, 1, true));
        due("the marks of the new week", 1, book.told(1, 3));
    }

    /** "Then the week is 1 greater." */
    private static void theWeekIsOneGreater() {
        ReaperWages book = new ReaperWages();
        for (int week = 0; week < 200; week++) {
            due("the week", week, book.count(0));
            due("pay nobody", 0, book.pay());
        }
        book.hire(1);
        book.pay();
        due("a week of an idle reaper", 201, book.count(0));
        book.work(0, 1, false);
        book.pay();
        due("a week out of an empty chest", 202, book.count(0));
        book.fill(2, 5);
        due("pay", 20, book.pay());
        due("a week that is paid", 203, book.count(0));
    }

    /** A week is over; the rates, the kinds, and what was paid ahead stay. */
    private static void whatStaysAfterAWeek() {
        ReaperWages book = bookOf(2, 1);
        for (int what = 0; what < 5; what++) {
            book.setRate(what, MOST_RATE[what]);
        }
        book.fill(2, 500);
        for (int week = 1; week <= 3; week++) {
            book.bind(0, 10);
            due("pay", 40, book.pay());
            due("paid in all", 40 * week, book.told(0, 6));
            due("paid to all in all", 40 * week, book.count(6));
        }
        dueRow("the rates stay", MOST_RATE, ratesOf(book));
        due("the first kind stays", 2, book.told(0, 0));
        due("the second kind stays", 1, book.told(1, 0));
        due("the chest", 470, book.chest(2));
    }

    /** No wage is too great to be carried on, and then to be paid as far as there are coins. */
    private static void theGreatestWage() {
        ReaperWages book = bookOf(0);
        book.setRate(0, 40);
        book.setRate(2, 100);
        book.setRate(3, 100);
        bindAll(book, 0, 299700);
        int wage = 400 + 299600 * 8;
        due("pay out of an empty chest", 0, book.pay());
        due("all is carried on", wage, book.told(0, 5));
        fillAll(book, new int[] {20000, 0, 0});
        due("the half-crowns that go", wage / 120, book.coins(0, 0));
        due("pennies lack for the rest", wage % 120 / 4, book.lacks());
        due("pay all but the rest", wage - wage % 120, book.pay());
        dueRow("told then", new int[] {0, 0, 0, 0, 0, wage % 120, wage - wage % 120, 0}, toldOf(book, 0));
        dueRow("count then", new int[] {2, 1, 0, wage % 120, (20000 - wage / 120) * 120, 0, wage - wage % 120}, countsOf(book));
    }

    // ---- terms: refused calls

    /** "A method that throws an exception changes nothing." */
    private static void refusedCallsChangeNothing() {
        ReaperWages book = bookOf(0, 1, 2, 0, 1, 2, 0, 1);
        busyWeek(book);
        workAll(book, 1, 99 - book.told(1, 2));
        lendAll(book, 1, 5000 - book.told(1, 4));
        long before = book.digest();
        refused("hire a ninth", STATE, book, b -> b.hire(1));
        refused("hire of no kind", ARGUMENT, book, b -> b.hire(-1));
        refused("setRate beyond", ARGUMENT, book, b -> b.setRate(0, 41));
        refused("fill beyond", ARGUMENT, book, b -> b.fill(1, 501));
        refused("bind beyond", ARGUMENT, book, b -> b.bind(1, 1000));
        refused("work beyond 16, late", ARGUMENT, book, b -> b.work(1, 17, true));
        refused("work beyond 99, late", STATE, book, b -> b.work(1, 1, true));
        refused("lend beyond 2000", ARGUMENT, book, b -> b.lend(1, 2001));
        refused("lend beyond 5000", STATE, book, b -> b.lend(1, 1));
        refused("would beyond", ARGUMENT, book, b -> b.would(4, 10));
        due("after all refused calls", before, book.digest());
        dueRow("told after all refused calls", new int[] {1, 20, 99, 1, 5000, 200, 0, 98 + 19}, toldOf(book, 1));
        due("a wage is paid as if none had been refused", 4 * 120 + 4 * 48 + 40 * 4, book.pay());
    }

    /** "If several exceptions apply, the one that is named first is thrown." */
    private static void theExceptionNamedFirst() {
        ReaperWages book = bookOf(1, 1, 1, 1, 1, 1, 1, 1);
        workAll(book, 7, 99);
        lendAll(book, 7, 5000);
        for (int bad : new int[] {-1, 8, LEAST_INT, MOST_INT}) {
            refused("hire", ARGUMENT, book, b -> b.hire(bad));
            refused("setRate", INDEX, book, b -> b.setRate(bad, bad));
            refused("would", INDEX, book, b -> b.would(bad, bad));
            refused("fill", INDEX, book, b -> b.fill(bad, -1));
            refused("fill", INDEX, book, b -> b.fill(bad, 501));
            refused("bind", INDEX, book, b -> b.bind(bad, 0));
            refused("bind", INDEX, book, b -> b.bind(bad, 1000));
            refused("work", INDEX, book, b -> b.work(bad, 17, true));
            refused("work", INDEX, book, b -> b.work(bad, -1, false));
            refused("lend", INDEX, book, b -> b.lend(bad, 0));
            refused("lend", INDEX, book, b -> b.lend(bad, 2001));
            refused("told", INDEX, book, b -> b.told(bad, bad));
            refused("wage", INDEX, book, b -> b.wage(bad, bad));
            refused("coins", INDEX, book, b -> b.coins(bad, bad));
        }
        for (int hours : new int[] {-1, 17, 100, LEAST_INT, MOST_INT}) {
            refused("work " + hours + " beyond 99", ARGUMENT, book, b -> b.work(7, hours, true));
        }
        for (int sum : new int[] {-1, 0, 2001, LEAST_INT, MOST_INT}) {
            refused("lend " + sum + " beyond 5000", ARGUMENT, book, b -> b.lend(7, sum));
        }
        refused("work beyond 99", STATE, book, b -> b.work(7, 16, true));
        refused("lend beyond 5000", STATE, book, b -> b.lend(7, 2000));
    }

    /** "(nothing is changed)", of each call that asks. */
    private static void askingChangesNothing() {
        ReaperWages book = bookOf(0, 1, 2);
        busyWeek(book);
        ReaperWages unasked = bookOf(0, 1, 2);
        busyWeek(unasked);
        long before = book.digest();
        for (int i = 0; i < 3; i++) {
            toldOf(book, i);
            wagesOf(book, i);
            coinsOf(book, i);
            book.until(i);
            due("after asking of " + i, before, book.digest());
        }
        for (int what = 0; what < 5; what++) {
            book.would(what, LEAST_RATE[what]);
            due("after would, the least", before, book.digest());
            book.would(what, MOST_RATE[what]);
            due("after would, the most", before, book.digest());
        }
        countsOf(book);
        chestOf(book);
        ratesOf(book);
        book.lacks();
        due("after lacks", before, book.digest());
        book.advise();
        due("after advise", before, book.digest());
        book.mean();
        due("after mean", before, book.digest());
        dueRow("the rates after asking", FIRST_RATE, ratesOf(book));
        due("the week after asking", 1, book.count(0));
        due("pay after asking", unasked.pay(), book.pay());
        for (int i = 0; i < 3; i++) {
            dueRow("told in the next week, of " + i, toldOf(unasked, i), toldOf(book, i));
        }
    }

    // ---- promises 2 to 7

    /** "Throws IllegalArgumentException if kind is not 0 to 2". */
    private static void kindsOfAReaper() {
        ReaperWages book = new ReaperWages();
        for (int kind : new int[] {-1, 3, 4, -2, 8, LEAST_INT, MOST_INT}) {
            refused("hire(" + kind + ")", ARGUMENT, book, b -> b.hire(kind));
        }
        due("nobody was hired", 0, book.count(1));
        for (int kind = 0; kind < 3; kind++) {
            due("hire(" + kind + ")", kind, book.hire(kind));
            due("the kind", kind, book.told(kind, 0));
        }
    }

    /** "1 to 40 .. 1 to 99 .. 100 to 900 .. 0 to 100 .. 1 to 9"; "if to is none that it can be". */
    private static void ratesThatCanBe() {
        ReaperWages book = bookOf(0);
        for (int i = 0; i < 5; i++) {
            int what = i;
            int[] bad = {LEAST_RATE[i] - 1, MOST_RATE[i] + 1, -LEAST_RATE[i] - 1, LEAST_INT, MOST_INT, LEAST_INT + MOST_RATE[i]};
            for (int to : bad) {
                refused("setRate(" + what + ", " + to + ")", ARGUMENT, book, b -> b.setRate(what, to));
                refused("would(" + what + ", " + to + ")", ARGUMENT, book, b -> b.would(what, to));
            }
            due("setRate to what it is", FIRST_RATE[i], book.setRate(i, FIRST_RATE[i]));
            due("setRate to the most", FIRST_RATE[i], book.setRate(i, MOST_RATE[i]));
            due("the most", MOST_RATE[i], book.rate(i));
            refused("setRate beyond the most", ARGUMENT, book, b -> b.setRate(what, MOST_RATE[what] + 1));
            due("setRate to the least", MOST_RATE[i], book.setRate(i, LEAST_RATE[i]));
            due("the least", LEAST_RATE[i], book.rate(i));
            refused("setRate below the least", ARGUMENT, book, b -> b.setRate(what, LEAST_RATE[what] - 1));
            due("setRate back", LEAST_RATE[i], book.setRate(i, FIRST_RATE[i]));
        }
        dueRow("each rate by itself", FIRST_RATE, ratesOf(book));
    }

    /** "Throws IndexOutOfBoundsException if what is not 0 to 4". */
    private static void noSuchRate() {
        ReaperWages book = bookOf(0);
        refusedBeyond("setRate", 5, book, (b, what) -> b.setRate(what, 4));
        refusedBeyond("rate", 5, book, (b, what) -> b.rate(what));
        refusedBeyond("would", 5, book, (b, what) -> b.would(what, 4));
        dueRow("the rates then", FIRST_RATE, ratesOf(book));
    }

    /** "Throws IllegalArgumentException if many is not 1 to 500". */
    private static void fillOneTo500() {
        ReaperWages book = new ReaperWages();
        for (int i = 0; i < 3; i++) {
            int coin = i;
            for (int many : new int[] {0, -1, 501, -500, LEAST_INT, MOST_INT}) {
                refused("fill(" + coin + ", " + many + ")", ARGUMENT, book, b -> b.fill(coin, many));
            }
            due("none so far", 0, book.chest(i));
            due("fill with 500", 500, book.fill(i, 500));
            due("fill with 1", 501, book.fill(i, 1));
            due("fill with 499", 1000, book.fill(i, 499));
            due("then", 1000, book.chest(i));
        }
    }

    /** "Throws IndexOutOfBoundsException if coin is not 0 to 2". */
    private static void noSuchCoin() {
        ReaperWages book = bookOf(0);
        fillAll(book, new int[] {1, 2, 3});
        refusedBeyond("fill", 3, book, (b, coin) -> b.fill(coin, 1));
        refusedBeyond("chest", 3, book, (b, coin) -> b.chest(coin));
        refusedBeyond("coins", 3, book, (b, coin) -> b.coins(0, coin));
        dueRow("the chest then", new int[] {1, 2, 3}, chestOf(book));
    }

    /** "Throws IllegalArgumentException if sheaves is not 1 to 999". */
    private static void bindOneTo999() {
        ReaperWages book = bookOf(0, 1, 2);
        for (int i = 0; i < 3; i++) {
            int reaper = i;
            for (int sheaves : new int[] {0, -1, 1000, -999, LEAST_INT, MOST_INT}) {
                refused("bind(" + reaper + ", " + sheaves + ")", ARGUMENT, book, b -> b.bind(reaper, sheaves));
            }
            due("none so far", 0, book.told(i, 1));
            due("bind 999", 999, book.bind(i, 999));
            due("bind 1", 1000, book.bind(i, 1));
            due("bind 998", 1998, book.bind(i, 998));
        }
    }

    /** "Throws IllegalArgumentException if hours is not 0 to 16". */
    private static void workNothingTo16() {
        ReaperWages book = bookOf(0, 1, 2);
        for (int i = 0; i < 3; i++) {
            int reaper = i;
            for (int hours : new int[] {-1, 17, -16, 99, 100, LEAST_INT, MOST_INT}) {
                refused("work(" + reaper + ", " + hours + ", true)", ARGUMENT, book, b -> b.work(reaper, hours, true));
            }
            due("work 0", 0, book.work(i, 0, false));
            due("not late so far", 0, book.told(i, 3));
            due("work 0, late", 0, book.work(i, 0, true));
            due("late once", 1, book.told(i, 3));
            due("work 16, late", 16, book.work(i, 16, true));
            due("work 1", 17, book.work(i, 1, false));
            due("late twice", 2, book.told(i, 3));
        }
    }

    /** "Throws IllegalStateException if there would be more than 99". */
    private static void workAtMost99() {
        for (int last = 1; last <= 16; last++) {
            ReaperWages book = bookOf(1, 1);
            int hours = last;
            workAll(book, 0, 99 - last);
            if (last < 16) {
                refused("work " + (last + 1) + " to 100", STATE, book, b -> b.work(0, hours + 1, true));
            }
            due("work " + last + " to 99", 99, book.work(0, last, false));
            refused("work 1 to 100", STATE, book, b -> b.work(0, 1, true));
            refused("work 16 to 115", STATE, book, b -> b.work(0, 16, false));
            due("work none at 99", 99, book.work(0, 0, true));
            due("one mark", 1, book.told(0, 3));
            due("the other has hours of its own", 16, book.work(1, 16, false));
            book.pay();
            due("the hours of the next week", 16, book.work(0, 16, false));
        }
    }

    /** "Throws IllegalArgumentException if sum is not 1 to 2000". */
    private static void lendOneTo2000() {
        ReaperWages book = bookOf(0, 1, 2);
        for (int i = 0; i < 3; i++) {
            int reaper = i;
            for (int sum : new int[] {0, -1, 2001, -2000, 5001, LEAST_INT, MOST_INT}) {
                refused("lend(" + reaper + ", " + sum + ")", ARGUMENT, book, b -> b.lend(reaper, sum));
            }
            due("no debt so far", 0, book.told(i, 4));
            due("lend 2000", 2000, book.lend(i, 2000));
            due("lend 1", 2001, book.lend(i, 1));
            due("lend 1999", 4000, book.lend(i, 1999));
        }
    }

    /** "Throws IllegalStateException if it would be more than 5000"; "no coins of the chest are used". */
    private static void lendAtMost5000() {
        for (int last : new int[] {1, 2, 999, 1000, 1999, 2000}) {
            ReaperWages book = bookOf(0, 0);
            book.fill(0, 3);
            lendAll(book, 0, 5000 - last);
            if (last < 2000) {
                refused("lend " + (last + 1) + " to 5001", STATE, book, b -> b.lend(0, last + 1));
            }
            due("lend " + last + " to 5000", 5000, book.lend(0, last));
            refused("lend 1 to 5001", STATE, book, b -> b.lend(0, 1));
            refused("lend 2000 to 7000", STATE, book, b -> b.lend(0, 2000));
            due("the other has a debt of its own", 2000, book.lend(1, 2000));
            dueRow("the chest", new int[] {3, 0, 0}, chestOf(book));
        }
        ReaperWages book = plainBookOf(0);
        lendAll(book, 0, 5000);
        book.bind(0, 43);
        book.pay();
        due("10 are taken back", 4990, book.told(0, 4));
        refused("lend 11 again", STATE, book, b -> b.lend(0, 11));
        due("lend 10 again", 5000, book.lend(0, 10));
    }

    /** "Throws IndexOutOfBoundsException if there is no such reaper", of a book of none, one, and eight. */
    private static void noSuchReaper() {
        for (int many : new int[] {0, 1, 3, 8}) {
            ReaperWages book = new ReaperWages();
            for (int i = 0; i < many; i++) {
                book.hire(i % 3);
            }
            refusedBeyond("bind", many, book, (b, reaper) -> b.bind(reaper, 1));
            refusedBeyond("work", many, book, (b, reaper) -> b.work(reaper, 1, true));
            refusedBeyond("work nothing", many, book, (b, reaper) -> b.work(reaper, 0, true));
            refusedBeyond("lend", many, book, (b, reaper) -> b.lend(reaper, 1));
            refusedBeyond("told", many, book, (b, reaper) -> b.told(reaper, 0));
            refusedBeyond("wage", many, book, (b, reaper) -> b.wage(reaper, 0));
            refusedBeyond("coins", many, book, (b, reaper) -> b.coins(reaper, 0));
            refusedBeyond("until", many, book, (b, reaper) -> b.until(reaper));
        }
    }

    // ---- promises 9 to 14

    /** "or what is not 0 to 7 .. 0 to 5 .. 0 to 6". */
    private static void nothingBeyondWhatIsTold() {
        ReaperWages book = bookOf(0, 1);
        refusedBeyond("told(0, ..)", 8, book, (b, what) -> b.told(0, what));
        refusedBeyond("told(1, ..)", 8, book, (b, what) -> b.told(1, what));
        refusedBeyond("wage(0, ..)", 6, book, (b, what) -> b.wage(0, what));
        refusedBeyond("wage(1, ..)", 6, book, (b, what) -> b.wage(1, what));
        refusedBeyond("count", 7, book, (b, what) -> b.count(what));
    }

    /** "Returns how much is paid out in coins": that of this week, not what is coming, and not of all weeks. */
    private static void paidOutOfNothing() {
        ReaperWages book = plainBookOf(0, 0);
        due("pay without wages", 0, book.pay());
        book.bind(0, 7);
        book.bind(1, 9);
        due("pay out of an empty chest", 0, book.pay());
        book.fill(2, 3);
        due("pay what was carried on", 12, book.pay());
        dueRow("count", new int[] {3, 2, 0, 4, 0, 0, 12}, countsOf(book));
        book.bind(0, 1);
        due("pay out of the chest that is empty again", 0, book.pay());
        book.fill(2, 5);
        due("pay one penny of five", 4, book.pay());
        dueRow("count then", new int[] {5, 2, 0, 1, 16, 0, 16}, countsOf(book));
    }

    /** "1 reapers, 2 debts of all, 3 what is carried on for all", from nobody to eight. */
    private static void countOfNobodyAndOfAFullBook() {
        ReaperWages book = new ReaperWages();
        book.setRate(0, 10);
        book.setRate(3, 0);
        for (int i = 0; i < 8; i++) {
            due("reapers", i, book.count(1));
            due("debts", 5000 * i, book.count(2));
            due("carried on", 3 * i, book.count(3));
            due("wages", 0, book.count(5));
            book.hire(0);
            book.bind(i, 3);
            due("the wage of the last one", 3, book.count(5));
            book.pay();
            lendAll(book, i, 5000);
        }
        dueRow("a full book", new int[] {8, 8, 40000, 24, 0, 0, 0}, countsOf(book));
    }

    /** "4 what the chest has, in farthings": no number of coins is too great. */
    private static void theFullestChest() {
        for (int coin = 0; coin < 3; coin++) {
            ReaperWages book = new ReaperWages();
            for (int i = 1; i <= 500; i++) {
                due("fill", 500 * i, book.fill(coin, 500));
            }
            due("the fullest chest", 250000, book.chest(coin));
            due("the fullest chest, in farthings", 250000 * COIN_WORTH[coin], book.count(4));
        }
    }

    // ---- promises 15 to 20

    /** "what all wages of the week as it is would be then": at both ends of each rate. */
    private static void wouldAtTheEdgesOfRates() {
        ReaperWages book = bookOf(0, 1, 2);
        bindAll(book, 0, 450);
        workAll(book, 1, 62);
        bindAll(book, 2, 50);
        workAll(book, 2, 2);
        int[] atTheLeast = {40 + 6 + 1260 + 40, 555 + 63 + 60, 120 + 525 + 1260 + 60, 540 + 1260 + 60, 555 + 1260 + 60};
        int[] atTheMost = {1600 + 250 + 1260 + 200, 555 + 6237 + 198, 540 + 1260 + 60, 480 + 120 + 1260 + 60, 555 + 1260 + 60};
        for (int what = 0; what < 5; what++) {
            due("would(" + what + ") as it is", 1875, book.would(what, FIRST_RATE[what]));
            due("would(" + what + ") at the least", atTheLeast[what], book.would(what, LEAST_RATE[what]));
            due("would(" + what + ") at the most", atTheMost[what], book.would(what, MOST_RATE[what]));
            due("the wages as they are", 1875, book.count(5));
        }
        book.pay();
        due("what is carried on is no wage", 0, book.would(0, 40));
    }

    /** "the sheaves up to the measure", with another measure. */
    private static void wouldAcrossTheMeasure() {
        ReaperWages book = bookOf(0);
        book.setRate(0, 40);
        book.setRate(3, 100);
        bindAll(book, 0, 500);
        due("400 and 100 beyond", 1600 + 800, book.count(5));
        due("would, one below", 1996 + 8, book.would(2, 499));
        due("would, just the measure", 2000, book.would(2, 500));
        due("would, one above", 2000, book.would(2, 501));
    }

    /** "whichever of both is more", with another rate. */
    private static void wouldTurnsTheGreaterOne() {
        ReaperWages book = plainBookOf(2);
        bindAll(book, 0, 200);
        workAll(book, 0, 10);
        due("as much", 200, book.count(5));
        due("would by hours at 19", 200, book.would(1, 19));
        due("would by hours at 21", 210, book.would(1, 21));
        due("would by pieces at 9", 200, book.would(0, 9));
        due("would by pieces at 11", 220, book.would(0, 11));
    }

    /** "0 without a debt, at most 99; -1 if not by then". Rows: part, wage, debt, weeks. */
    private static void untilByNumbers() {
        int[][] rows = {
            {4, 0, 0, 0}, {4, 100, 0, 0}, {4, 0, 1, -1}, {4, 3, 1, -1}, {4, 4, 1, 1}, {4, 4, 2, 2}, {4, 8, 2, 1}, {4, 8, 3, 2},
            {4, 4, 98, 98}, {4, 4, 99, 99}, {4, 4, 100, -1}, {4, 4, 101, -1}, {4, 8, 197, 99}, {4, 8, 198, 99}, {4, 8, 199, -1},
            {1, 10, 9, 1}, {1, 10, 10, 1}, {1, 10, 11, 2}, {1, 10, 990, 99}, {1, 10, 991, -1}, {1, 5000, 5000, 1},
            {9, 8, 1, -1}, {9, 9, 1, 1}, {9, 454, 5000, -1}, {9, 458, 5000, -1}, {9, 459, 5000, 99}, {9, 468, 5000, 97},
        };
        for (int[] row : rows) {
            ReaperWages book = plainBookOf(0);
            book.setRate(4, row[0]);
            bindAll(book, 0, row[1]);
            lendAll(book, 0, row[2]);
            due("until of " + row[2] + " with " + row[1] + " a week, a part of 1/" + row[0], row[3], book.until(0));
            due("the debt stays", row[2], book.told(0, 4));
            due("the week stays", 0, book.count(0));
        }
    }

    /** "what is carried on now counts in the first of them", "nothing carried on". Rows: carried, wage, debt, weeks. */
    private static void untilWithWhatIsCarriedOn() {
        int[][] rows = {
            {4, 4, 100, 99}, {4, 4, 101, -1}, {8, 4, 101, 99}, {8, 4, 102, -1}, {3, 1, 1, 1}, {3, 1, 2, -1}, {2, 1, 1, -1},
            {20, 0, 5, 1}, {20, 0, 6, -1}, {19, 0, 5, -1}, {20, 0, 0, 0}, {2, 6, 2, 1}, {2, 6, 3, 2}, {2, 6, 4, 3},
        };
        for (int[] row : rows) {
            ReaperWages book = plainBookOf(0);
            bindAll(book, 0, row[0]);
            book.pay();
            bindAll(book, 0, row[1]);
            lendAll(book, 0, row[2]);
            due("until of " + row[2] + " with " + row[1] + " a week and " + row[0] + " ahead", row[3], book.until(0));
        }
    }

    /** "the same sheaves, hours and late marks": the wage of the reaper's kind, whatever the chest has. */
    private static void untilIsOfTheReaperAlone() {
        ReaperWages book = plainBookOf(0, 1, 2);
        for (int i = 0; i < 3; i++) {
            bindAll(book, i, 8);
            workAll(book, i, 1);
            lendAll(book, i, 10);
        }
        due("by pieces: 2 a week", 5, book.until(0));
        due("by hours: 5 a week", 2, book.until(1));
        due("the greater one", 2, book.until(2));
        fillAll(book, new int[] {9, 9, 99});
        due("with a full chest", 5, book.until(0));
        book.work(1, 0, true);
        due("docked to nothing", -1, book.until(1));
        book.work(2, 0, true);
        due("docked, so by pieces", 5, book.until(2));
        book.setRate(4, 1);
        due("by the part as it is now", 2, book.until(0));
    }

    /** "so that nothing but what is less than 4 is carried on". Rows: chest, wage, pennies that lack. */
    private static void lacksForOne() {
        int[][] rows = {
            {0, 0, 0, 0, 0}, {0, 0, 0, 3, 0}, {0, 0, 0, 4, 1}, {0, 0, 0, 7, 1}, {0, 0, 0, 8, 2},
            {0, 0, 1, 4, 0}, {0, 0, 1, 7, 0}, {0, 0, 1, 8, 1}, {0, 0, 2, 8, 0}, {0, 0, 3, 8, 0},
            {0, 1, 0, 47, 11}, {0, 1, 0, 48, 0}, {0, 1, 0, 51, 0}, {0, 1, 0, 52, 1}, {0, 2, 0, 95, 11},
            {1, 0, 0, 119, 29}, {1, 0, 0, 120, 0}, {1, 0, 0, 124, 1}, {1, 1, 0, 240, 18}, {0, 0, 500, 2003, 0}, {0, 0, 500, 2004, 1},
        };
        for (int[] row : rows) {
            ReaperWages book = plainBookOf(0);
            fillAll(book, row);
            bindAll(book, 0, row[3]);
            due("lacks with " + row[0] + ", " + row[1] + ", " + row[2] + " for " + row[3], row[4], book.lacks());
        }
    }

    /** "less than 4" is said of what each reaper carries on. Rows: chest, two wages, pennies that lack. */
    private static void lacksForTwo() {
        int[][] rows = {
            {0, 0, 0, 3, 3, 0}, {0, 0, 0, 2, 2, 0}, {0, 0, 0, 3, 4, 1}, {0, 0, 0, 7, 7, 2}, {0, 0, 1, 4, 4, 1}, {0, 0, 2, 4, 4, 0},
            {0, 1, 30, 100, 100, 8}, {0, 1, 0, 4, 48, 1}, {0, 1, 0, 48, 4, 1}, {0, 1, 0, 48, 48, 12}, {1, 0, 0, 120, 120, 30},
            {1, 0, 0, 119, 120, 29}, {0, 0, 9, 0, 40, 1}, {0, 0, 9, 40, 0, 1}, {0, 0, 5, 3, 20, 0},
        };
        for (int[] row : rows) {
            ReaperWages book = plainBookOf(0, 0);
            fillAll(book, row);
            bindAll(book, 0, row[3]);
            bindAll(book, 1, row[4]);
            due("lacks with " + row[0] + ", " + row[1] + ", " + row[2] + " for " + row[3] + " and " + row[4], row[5], book.lacks());
        }
        ReaperWages book = plainBookOf(0);
        book.bind(0, 3);
        book.pay();
        due("3 are carried on", 0, book.lacks());
        book.bind(0, 1);
        due("3 and 1 are a penny", 1, book.lacks());
        book.lend(0, 5);
        due("one of 4 is taken back", 0, book.lacks());
    }

    /** "by how many pennies at least": with one less somebody has 4 or more carried on, with so many nobody has. */
    private static void lacksIsTheLeastThatIsEnough() {
        for (int run = 1; run <= 30; run++) {
            int lacks = lackingBook(run).lacks();
            due("run " + run + ": with so many pennies", 0, overFour(run, lacks));
            if (lacks > 0) {
                due("run " + run + ": with one penny less", 1, overFour(run, lacks - 1));
            }
        }
    }

    private static ReaperWages lackingBook(int run) {
        ReaperWages book = plainBookOf(0, 2, 0, 1, 0);
        for (int i = 0; i < 5; i++) {
            bindAll(book, i, 1 + (run * 37 + i * 61) % 190);
            workAll(book, i, (run + i) % 7);
            lendAll(book, i, (run * i) % 23);
        }
        fillAll(book, new int[] {run % 4, run % 5, run * 7 % 40});
        return book;
    }

    /** How many reapers have 4 or more carried on after a week with some pennies more: none 0, else 1. */
    private static int overFour(int run, int pennies) {
        ReaperWages book = lackingBook(run);
        fillAll(book, new int[] {0, 0, pennies});
        book.pay();
        for (int i = 0; i < 5; i++) {
            if (book.told(i, 5) >= 4) {
                return 1;
            }
        }
        return 0;
    }

    /** "that of 1 to 99 .. of several the smallest one". Rows: farthings by pieces, hours, the rate. */
    private static void adviseBySums() {
        int[][] rows = {
            {0, 0, 1}, {500, 0, 1}, {0, 5, 1}, {1, 1, 1}, {1, 2, 1}, {2, 2, 1}, {3, 2, 1}, {4, 2, 2}, {5, 2, 2}, {6, 2, 3},
            {25, 2, 12}, {26, 2, 13}, {27, 2, 13}, {97, 1, 97}, {98, 1, 98}, {99, 1, 99}, {100, 1, 99}, {5000, 1, 99},
            {195, 2, 97}, {196, 2, 98}, {197, 2, 98}, {198, 2, 99}, {199, 2, 99}, {294, 3, 98}, {295, 3, 98}, {296, 3, 99},
            {630, 62, 10}, {661, 62, 10}, {662, 62, 11},
        };
        for (int[] row : rows) {
            ReaperWages book = plainBookOf(1);
            bindAll(book, 0, row[0]);
            workAll(book, 0, row[1]);
            due("advise of " + row[0] + " and " + row[1] + " hours", row[2], book.advise());
            book.setRate(1, 99);
            due("advise at another rate", row[2], book.advise());
            due("the rate stays", 99, book.rate(1));
        }
    }

    /** "of all reapers, whatever their kinds, added". */
    private static void adviseWhateverTheKinds() {
        for (int kind = 0; kind < 3; kind++) {
            ReaperWages book = plainBookOf(kind, (kind + 1) % 3, (kind + 2) % 3);
            bindAll(book, 0, 10);
            bindAll(book, 1, 21);
            workAll(book, 1, 1);
            workAll(book, 2, 2);
            due("31 and 3 hours", 10, book.advise());
            book.work(2, 0, true);
            due("31 and 2 hours", 15, book.advise());
            book.bind(2, 2);
            due("33 and 2 hours", 16, book.advise());
            book.pay();
            book.work(0, 5, false);
            due("what is carried on is no wage", 1, book.advise());
        }
        ReaperWages full = plainBookOf(0, 0, 0, 0, 0, 0, 0, 0);
        full.work(0, 1, false);
        full.bind(7, 9);
        due("9 of the eighth", 9, full.advise());
        full.work(7, 2, false);
        due("9 and 3 hours", 3, full.advise());
        ReaperWages cut = bookOf(0, 0);
        cut.bind(0, 9);
        cut.bind(1, 9);
        cut.work(0, 1, false);
        due("10 and 10, each cut", 20, cut.advise());
    }

    /** "the mean of the wages of the week as it is; 0 without reapers". */
    private static void meanWithoutReapers() {
        ReaperWages book = new ReaperWages();
        book.setRate(0, 10);
        book.fill(0, 5);
        dueMean("of nobody", 0.0, book.mean());
        book.hire(0);
        dueMean("of one without a wage", 0.0, book.mean());
        book.bind(0, 1);
        dueMean("of one", 1.0, book.mean());
        for (int many = 2; many <= 8; many++) {
            book.hire(1);
            dueMean("of 1 for " + many, 1.0 / many, book.mean());
        }
        book.bind(0, 1);
        dueMean("of 2 for 8", 0.25, book.mean());
        book.lend(0, 2000);
        dueMean("a debt is no less of a wage", 0.25, book.mean());
        book.pay();
        dueMean("of the next week", 0.0, book.mean());
    }

    /** "A number d starts with 1657; .. d becomes d * 31 + x, which wraps around as a 64-bit integer". */
    private static void digestOfAnEmptyBook() {
        ReaperWages book = new ReaperWages();
        due("digest of an empty book", checksum(0, 0, 0, 0, 0, 0, 0, 12, 20, 400, 25, 4, 0, 0, 0), book.digest());
        due("digest of an empty book, the number", EMPTY_DIGEST, book.digest());
        book.pay();
        due("digest of the week 1", checksum(1, 0, 0, 0, 0, 0, 0, 12, 20, 400, 25, 4, 0, 0, 0), book.digest());
        fillAll(book, new int[] {1, 2, 3});
        due("digest with coins", checksum(1, 0, 0, 0, 228, 0, 0, 12, 20, 400, 25, 4, 1, 2, 3), book.digest());
    }

    /** "for each reaper what told() tells, then what wage() tells, then what coins() tells (all in their order)". */
    private static void digestWithAReaper() {
        ReaperWages book = plainBookOf(2);
        due("digest of an idle reaper", checksum(0, 1, 0, 0, 0, 0, 0, 10, 20, 400, 0, 4, 0, 0, 0,
                2, 0, 0, 0, 0, 0, 0, 0, 0, 0, 0, 0, 0, 0, 0, 0, 0), book.digest());
        book.bind(0, 7);
        book.fill(2, 1);
        book.pay();
        book.bind(0, 200);
        book.work(0, 9, true);
        book.lend(0, 50);
        fillAll(book, new int[] {1, 2, 0});
        // 200 and 3 are coming, 50 are taken back: a half-crown, no shilling, none of 8 pennies.
        due("digest of a reaper", checksum(1, 1, 50, 3, 216, 200, 4, 10, 20, 400, 0, 4, 1, 2, 0,
                2, 200, 9, 1, 50, 3, 4, 8, 200, 160, 200, 203, 50, 153, 1, 0, 0), book.digest());
    }

    /** "for each reaper", of eight, "reaper by reaper". */
    private static void digestOfAFullBook() {
        ReaperWages book = plainBookOf(0, 0, 0, 0, 0, 0, 0, 0);
        book.fill(2, 7);
        int[] numbers = new int[15 + 8 * 17];
        int[] head = {0, 8, 0, 0, 28, 32, 0, 10, 20, 400, 0, 4, 0, 0, 7};
        System.arraycopy(head, 0, numbers, 0, 15);
        for (int i = 0; i < 8; i++) {
            book.bind(i, 4);
            int[] one = {0, 4, 0, 0, 0, 0, 0, 0, 4, 0, 4, 4, 0, 4, 0, 0, i == 7 ? 0 : 1};
            System.arraycopy(one, 0, numbers, 15 + 17 * i, 17);
        }
        due("digest of eight", checksum(numbers), book.digest());
    }

    // ---- what the tests are told with

    private static long checksum(int... numbers) {
        BigInteger d = BigInteger.valueOf(1657);
        for (int x : numbers) {
            d = d.multiply(BigInteger.valueOf(31)).add(BigInteger.valueOf(x));
        }
        return d.longValue();
    }

    private static ReaperWages bookOf(int... kinds) {
        ReaperWages book = new ReaperWages();
        for (int kind : kinds) {
            book.hire(kind);
        }
        return book;
    }

    /** A book in which each sheaf is worth one farthing. */
    private static ReaperWages plainBookOf(int... kinds) {
        ReaperWages book = bookOf(kinds);
        book.setRate(0, 10);
        book.setRate(3, 0);
        return book;
    }

    /** For each the same week twice, the first one paid out of an empty chest; then two debts and few coins. */
    private static void busyWeek(ReaperWages book) {
        for (int i = 0; i < book.count(1); i++) {
            book.bind(i, 20);
            book.work(i, 11, true);
        }
        book.pay();
        for (int i = 0; i < book.count(1); i++) {
            book.bind(i, 20);
            book.work(i, 11, true);
        }
        book.lend(0, 30);
        book.lend(2, 1);
        fillAll(book, new int[] {4, 4, 40});
    }

    private static void bindAll(ReaperWages book, int reaper, int sheaves) {
        for (int left = sheaves; left > 0; left -= 999) {
            book.bind(reaper, Math.min(left, 999));
        }
    }

    private static void workAll(ReaperWages book, int reaper, int hours) {
        for (int left = hours; left > 0; left -= 16) {
            book.work(reaper, Math.min(left, 16), false);
        }
    }

    private static void comeLate(ReaperWages book, int reaper, int marks) {
        for (int i = 0; i < marks; i++) {
            book.work(reaper, 0, true);
        }
    }

    private static void lendAll(ReaperWages book, int reaper, int sum) {
        for (int left = sum; left > 0; left -= 2000) {
            book.lend(reaper, Math.min(left, 2000));
        }
    }

    private static void fillAll(ReaperWages book, int[] coins) {
        for (int coin = 0; coin < 3; coin++) {
            for (int left = coins[coin]; left > 0; left -= 500) {
                book.fill(coin, Math.min(left, 500));
            }
        }
    }

    private static int[] countsOf(ReaperWages book) {
        int[] row = new int[7];
        for (int what = 0; what < 7; what++) row[what] = book.count(what);
        return row;
    }

    private static int[] ratesOf(ReaperWages book) {
        int[] row = new int[5];
        for (int what = 0; what < 5; what++) row[what] = book.rate(what);
        return row;
    }

    private static int[] chestOf(ReaperWages book) {
        int[] row = new int[3];
        for (int coin = 0; coin < 3; coin++) row[coin] = book.chest(coin);
        return row;
    }

    private static int[] toldOf(ReaperWages book, int reaper) {
        int[] row = new int[8];
        for (int what = 0; what < 8; what++) row[what] = book.told(reaper, what);
        return row;
    }

    private static int[] wagesOf(ReaperWages book, int reaper) {
        int[] row = new int[6];
        for (int what = 0; what < 6; what++) row[what] = book.wage(reaper, what);
        return row;
    }

    private static int[] coinsOf(ReaperWages book, int reaper) {
        int[] row = new int[3];
        for (int coin = 0; coin < 3; coin++) row[coin] = book.coins(reaper, coin);
        return row;
    }

    private static void due(String what, long due, long got) {
        if (due != got) {
            wrong++;
            System.out.println(what + ": answered " + got + ", due is " + due);
        }
    }

    private static void dueRow(String what, int[] due, int[] got) {
        for (int i = 0; i < due.length; i++) {
            due(what + " at " + i, due[i], got[i]);
        }
    }

    private static void dueMean(String what, double due, double got) {
        if (due != got) {
            wrong++;
            System.out.println("mean " + what + ": answered " + got + ", due is " + due);
        }
    }

    /** Refused for all that is not 0 to end - 1, ordinary numbers and the ends of int alike. */
    private static void refusedBeyond(String what, int end, ReaperWages book, CallAt call) {
        for (int at : new int[] {-1, end, end + 1, -end - 1, LEAST_INT, LEAST_INT + 1, MOST_INT}) {
            refused(what + " at " + at, INDEX, book, b -> call.on(b, at));
        }
    }

    /** The call throws just this class (no subclass, which would be the machine's own) and changes nothing. */
    private static void refused(String what, Class<?> due, ReaperWages book, Call call) {
        long before = book.digest();
        Class<?> got = null;
        try {
            call.on(book);
        } catch (RuntimeException e) {
            got = e.getClass();
        }
        if (got != due) {
            wrong++;
            System.out.println(what + ": threw " + got + ", due is " + due);
        }
        due(what + " changes nothing", before, book.digest());
    }
}
