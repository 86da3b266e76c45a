/** Terms 1: LACK, OVER and each RULE where it turns: nothing lacks, like gifts, odd coins, one alone. */
public final class EdgesOfCostsTest {
    private static final Due DUE = new Due();

    public static void main(String[] args) {
        lackAndOver();
        alike();
        first();
        two();
        doubled();
        most();
        intoTheChest();
        pursesDoNotBound();
        giftsAboveThePurse();
        mendTellsWhatItWas();
        guesses();
        DUE.end();
    }

    private static LeastPays table(int bill, int rule, int... gifts) {
        LeastPays x = new LeastPays();
        for (int i = 0; i < gifts.length; i++) {
            x.guest(99);
            x.mend(i, 1, gifts[i]);
        }
        x.mend(0, 4, bill);
        x.mend(0, 5, rule);
        return x;
    }

    private static void costs(String what, LeastPays x, int... costs) {
        int all = 0;
        for (int i = 0; i < costs.length; i++) {
            DUE.is("P5 " + what + ": COST of " + i, x.of(i, 4), costs[i]);
            all += costs[i];
        }
        DUE.is("P22 " + what + ": all COSTS together", x.night(), all);
        for (int i = 0; i < costs.length; i++) {
            DUE.is("P22 " + what + ": PAID by " + i, x.of(i, 5), costs[i]);
        }
    }

    private static void lackAndOver() {
        int[] bills = {0, 39, 40, 41, 599};
        int[] lacks = {0, 0, 0, 1, 559};
        int[] overs = {40, 1, 0, 0, 0};
        for (int i = 0; i < bills.length; i++) {
            LeastPays x = table(bills[i], 0, 30, 10);
            DUE.is("P5 BILL " + bills[i], x.of(0, 10), bills[i]);
            DUE.is("P5 THE HAT by BILL " + bills[i], x.of(0, 13), 40);
            DUE.is("P5 LACK by BILL " + bills[i], x.of(0, 14), lacks[i]);
            DUE.is("P5 OVER by BILL " + bills[i], x.of(0, 15), overs[i]);
        }
        LeastPays x = table(599, 0, 99, 99, 99, 99, 99, 99);
        DUE.is("P5 the greatest HAT", x.of(0, 13), 594);
        DUE.is("P5 LACK by the greatest HAT", x.of(0, 14), 5);
    }

    private static void alike() {
        costs("ALIKE, one is least", table(60, 0, 20, 9, 10), 20, 30, 10);
        costs("ALIKE, cut: 2 left over", table(61, 0, 10, 10, 20, 10), 14, 14, 20, 13);
        costs("ALIKE, 1 left over", table(51, 0, 30, 5, 5, 5), 30, 7, 7, 7);
        costs("ALIKE, 1 left over", table(52, 0, 30, 5, 5, 5), 30, 8, 7, 7);
        costs("ALIKE, less lacks than they are", table(47, 0, 5, 30, 5, 5), 6, 30, 6, 5);
        costs("ALIKE, one coin lacks", table(46, 0, 5, 30, 5, 5), 6, 30, 5, 5);
        costs("ALIKE, nothing lacks", table(45, 0, 5, 30, 5, 5), 5, 30, 5, 5);
        costs("ALIKE, over", table(44, 0, 5, 30, 5, 5), 5, 30, 5, 5);
        costs("ALIKE, all six", table(599, 0, 0, 0, 0, 0, 0, 0), 100, 100, 100, 100, 100, 99);
        costs("ALIKE, one alone", table(599, 0, 99), 599);
    }

    private static void first() {
        costs("FIRST, of like ones the least number", table(60, 1, 20, 9, 9), 20, 31, 9);
        costs("FIRST, the last is least", table(60, 1, 20, 9, 8), 20, 9, 31);
        costs("FIRST, one coin lacks", table(38, 1, 20, 9, 8), 20, 9, 9);
        costs("FIRST, nothing lacks", table(37, 1, 20, 9, 8), 20, 9, 8);
        costs("FIRST, over", table(36, 1, 20, 9, 8), 20, 9, 8);
        costs("FIRST, one alone", table(60, 1, 7), 60);
    }

    private static void two() {
        costs("TWO, even", table(57, 2, 20, 9, 8), 20, 19, 18);
        costs("TWO, odd: the least, though its number is greater", table(58, 2, 20, 9, 8), 20, 19, 19);
        costs("TWO, odd: the least, its number less", table(58, 2, 20, 8, 9), 20, 19, 19);
        costs("TWO, like ones by numbers", table(61, 2, 20, 20, 20), 21, 20, 20);
        costs("TWO, like ones by numbers", table(63, 2, 20, 20, 20), 22, 21, 20);
        costs("TWO, the next of like ones by number", table(60, 2, 20, 20, 0), 30, 20, 10);
        costs("TWO, two like ones are the least", table(61, 2, 30, 5, 5), 30, 16, 15);
        costs("TWO, the next is ahead of the least", table(59, 2, 20, 30, 4), 22, 30, 7);
        costs("TWO, the next is not the latest that is less than the most", table(50, 2, 0, 5, 10, 7), 14, 19, 10, 7);
        costs("TWO, the next comes behind", table(50, 2, 0, 7, 10, 5), 14, 7, 10, 19);
        costs("TWO, a lesser one comes last", table(50, 2, 9, 8, 7), 9, 21, 20);
        costs("TWO, one coin: all to the least", table(38, 2, 20, 9, 8), 20, 9, 9);
        costs("TWO, nothing lacks", table(37, 2, 20, 9, 8), 20, 9, 8);
        costs("TWO, over", table(0, 2, 20, 9, 8), 20, 9, 8);
        costs("TWO, one guest alone all", table(61, 2, 0), 61);
        costs("TWO, just two", table(61, 2, 30, 0), 45, 16);
    }

    private static void doubled() {
        costs("DOUBLE, as much again as its own GIFT", table(60, 3, 20, 9, 9), 20, 40, 9);
        costs("DOUBLE, also if nothing lacks", table(38, 3, 20, 9, 9), 20, 18, 9);
        costs("DOUBLE, also if it is over", table(0, 3, 20, 9, 9), 20, 18, 9);
        costs("DOUBLE, a GIFT of 0", table(60, 3, 20, 9, 0), 20, 9, 31);
        costs("DOUBLE, a GIFT of 0, nothing lacks", table(29, 3, 20, 9, 0), 20, 9, 0);
        costs("DOUBLE, one alone", table(60, 3, 20), 80);
        costs("DOUBLE, the greatest", table(599, 3, 99), 698);
    }

    private static void most() {
        costs("MOST, as FIRST", table(60, 4, 20, 9, 9), 20, 31, 9);
        costs("MOST, nothing over", table(38, 4, 20, 9, 9), 20, 9, 9);
        costs("MOST, one over", table(37, 4, 20, 9, 9), 19, 9, 9);
        costs("MOST, of like ones the least number", table(40, 4, 9, 20, 20), 9, 11, 20);
        costs("MOST, all alike", table(20, 4, 10, 10, 10), 0, 10, 10);
        costs("MOST, just its GIFT", table(18, 4, 20, 9, 9), 0, 9, 9);
        costs("MOST, its GIFT at most", table(17, 4, 20, 9, 9), 0, 9, 9);
        costs("MOST, BILL 0", table(0, 4, 9, 9, 20), 9, 9, 0);
        costs("MOST, one alone is least and most", table(7, 4, 20), 7);
        costs("MOST, one alone, something lacks", table(27, 4, 20), 27);
        costs("MOST, a GIFT of 0", table(0, 4, 0), 0);
    }

    private static void chest(String what, LeastPays x, int chest) {
        x.night();
        DUE.is("P22 " + what + ": THE CHEST", x.of(0, 16), chest);
        x.night();
        DUE.is("P22 " + what + ": THE CHEST, two NIGHTS", x.of(0, 16), 2 * chest);
        DUE.is("P22 " + what + ": NIGHTS", x.of(0, 17), 2);
    }

    private static void intoTheChest() {
        for (int rule = 0; rule <= 4; rule++) {
            int again = rule == 3 ? 8 : 0;
            chest("RULE " + rule + ", something lacks", table(60, rule, 20, 9, 8), again);
            chest("RULE " + rule + ", nothing lacks", table(37, rule, 20, 9, 8), again);
            chest("RULE " + rule + ", one over", table(36, rule, 20, 9, 8), rule == 4 ? 0 : 1 + again);
            chest("RULE " + rule + ", 20 over", table(17, rule, 20, 9, 8), rule == 4 ? 0 : 20 + again);
            chest("RULE " + rule + ", 21 over", table(16, rule, 20, 9, 8), rule == 4 ? 1 : 21 + again);
            chest("RULE " + rule + ", all over", table(0, rule, 20, 9, 8), rule == 4 ? 17 : 37 + again);
            chest("RULE " + rule + ", GIFTS of 0", table(0, rule, 0, 0), 0);
            chest("RULE " + rule + ", one alone, something lacks", table(60, rule, 20), rule == 3 ? 20 : 0);
            chest("RULE " + rule + ", one alone, over", table(7, rule, 20), rule == 4 ? 0 : rule == 3 ? 33 : 13);
        }
    }

    private static void pursesDoNotBound() {
        LeastPays x = new LeastPays();
        x.guest(0);
        x.mend(0, 4, 599);
        for (int rule = 0; rule <= 4; rule++) {
            x.mend(0, 5, rule);
            DUE.is("P5 a PURSE of 0 pays all by RULE " + rule, x.of(0, 4), 599);
        }
    }

    private static void giftsAboveThePurse() {
        LeastPays x = table(60, 1, 50, 40);
        x.mend(0, 3, 45);
        x.mend(0, 0, 20);
        DUE.is("P4 a GIFT above a PURSE stands", x.of(0, 1), 50);
        DUE.is("P4 an ELSE above a PURSE stands", x.of(0, 3), 45);
        DUE.is("P5 it counts in THE HAT", x.of(0, 13), 90);
        DUE.is("P5 it is its COST", x.of(0, 4), 50);
        DUE.is("P4 another GIFT above it", x.mend(0, 1, 21), LeastPays.BAD);
        DUE.is("P4 the PURSE itself", x.mend(0, 1, 20), 50);
        DUE.is("P4 it is not laid back", x.mend(0, 1, 50), LeastPays.BAD);
        DUE.is("P9 SUMS no more than its PURSE", x.putIn(0, 0), 0);
    }

    private static void mendTellsWhatItWas() {
        LeastPays x = table(60, 0, 0, 0);
        int[][] told = {{0, 9}, {1, 8}, {2, 7}, {3, 6}};
        for (int[] t : told) {
            for (int i = 0; i < 2; i++) {
                int was = x.of(i, t[0]);
                DUE.is("P4 what " + t[0] + " was", x.mend(i, t[0], t[1] - i), was);
                DUE.is("P4 what " + t[0] + " became", x.of(i, t[0]), t[1] - i);
            }
            DUE.is("P4 the other's stays", x.of(0, t[0]), t[1]);
        }
        int[][] ofTheTable = {{4, 9, 60}, {5, 3, 0}, {6, 7, 10}};
        for (int[] t : ofTheTable) {
            DUE.is("P4 what " + t[0] + " was", x.mend(0, t[0], t[1]), t[2]);
            DUE.is("P4 what " + t[0] + " became", x.of(0, t[0] + 6), t[1]);
            DUE.is("P4 the same number", x.mend(0, t[0], t[1]), t[1]);
        }
    }

    private static void guesses() {
        LeastPays x = table(60, 0, 0, 0);
        DUE.is("P6 -1 at first", x.of(1, 6), -1);
        int was = -1;
        int[] told = {0, 599, -1, -1, 300, 300};
        for (int b : told) {
            DUE.is("P6 what it was ahead of " + b, x.think(1, b), was);
            DUE.is("P6 what it is", x.of(1, 6), b);
            was = b;
        }
        DUE.is("P6 the other's stays", x.of(0, 6), -1);
        DUE.is("P6 a GUESS is no CHANGE", x.count(3), 0);
    }
}
