/** Promises 9 to 15: what to put in, rests, turns, two who agree. */
public final class PutInTest {
    private static final Due DUE = new Due();

    public static void main(String[] args) {
        putIn();
        mean();
        bestMean();
        rest();
        rests();
        tooManyWays();
        turns();
        agree();
        DUE.end();
    }

    private static void putIn() {
        LeastPays x = Due.table(new int[] {25, 40}, new int[] {3, 15});
        x.mend(0, 5, 1);
        DUE.is("P9 sum", x.putIn(0, 0), 20);
        DUE.is("P9 cost", x.putIn(0, 1), 20);
        x.mend(1, 1, 25);
        DUE.is("P9 cannot be above: the least of like ones", x.putIn(0, 0), 0);
        DUE.is("P9 pays what lacks", x.putIn(0, 1), 35);
        DUE.is("P9 the gift stays", x.of(0, 1), 3);
        DUE.is("P9 what 2", x.putIn(0, 2), LeastPays.VOID);
        DUE.is("P9 what -1", x.putIn(0, -1), LeastPays.VOID);
        DUE.is("P9 guest 2", x.putIn(2, 0), LeastPays.VOID);
        DUE.is("P9 guest -1", x.putIn(-1, 0), LeastPays.VOID);
        x.mend(0, 6, 26);
        DUE.is("P9 only 0", x.putIn(0, 0), 0);
        x.mend(0, 6, 25);
        x.mend(1, 1, 24);
        DUE.is("P9 the purse itself", x.putIn(0, 0), 25);
    }

    private static void mean() {
        LeastPays x = Due.table(new int[] {20, 30, 9}, new int[] {10, 20, 9});
        x.mend(0, 5, 1);
        x.mend(1, 2, 4);
        x.mend(1, 3, 0);
        x.mend(2, 2, 12);
        x.mend(2, 3, 8);
        // Guest 1 gives 20 in 8 of 12 nights (then guest 2 is least) and 0 in 4 (then it is).
        DUE.is("P10 above", x.mean(0, 10, 0), 10);
        DUE.is("P10 below", x.mean(0, 10, 1), 1);
        // Giving 8, guest 0 is least in 8 nights of 12: 8 and 60 - 36.
        DUE.is("P10 above", x.mean(0, 8, 0), 24);
        DUE.is("P10 below", x.mean(0, 8, 1), 1);
        // Giving 1: 1 and 60 - 29 in 8 nights, 1 in four: (32 * 8 + 4) / 12.
        DUE.is("P10 above", x.mean(0, 1, 0), 65);
        DUE.is("P10 below", x.mean(0, 1, 1), 3);
        x.mend(0, 4, 0);
        DUE.is("P10 0 above", x.mean(0, 0, 0), 0);
        DUE.is("P10 by 1", x.mean(0, 0, 1), 1);
        DUE.is("P10 above purse", x.mean(0, 21, 0), Due.NO_NUMBER);
        DUE.is("P10 below 0", x.mean(0, -1, 0), Due.NO_NUMBER);
        DUE.is("P10 part 2", x.mean(0, 1, 2), Due.NO_NUMBER);
        DUE.is("P10 part -1", x.mean(0, 1, -1), Due.NO_NUMBER);
        DUE.is("P10 guest 3", x.mean(3, 0, 0), Due.NO_NUMBER);
        DUE.is("P10 purse itself", x.mean(0, 20, 0), 20);
    }

    private static void bestMean() {
        LeastPays x = Due.table(new int[] {40, 30}, new int[] {10, 10});
        x.mend(0, 5, 1);
        x.mend(1, 2, 1);
        x.mend(1, 3, 30);
        // By 20: 20 in eleven nights, 30 in one; by 30 or 40 always that; by 10: 50 or 30.
        DUE.is("P11 sum", x.bestMean(0), 20);
        x.mend(1, 2, 12);
        DUE.is("P11 least of like ones", x.bestMean(0), 0);
        DUE.is("P11 guest 2", x.bestMean(2), LeastPays.BAD);
        DUE.is("P11 guest -1", x.bestMean(-1), LeastPays.BAD);
    }

    private static void rest() {
        LeastPays x = new LeastPays();
        DUE.is("P12 nobody", x.rest(0), 1);
        DUE.is("P12 nobody", x.rest(1), LeastPays.NOT);
        DUE.is("P12 what 2", x.rest(2), LeastPays.BAD);
        DUE.is("P12 what -1", x.rest(-1), LeastPays.BAD);
        x = Due.table(new int[] {40, 40}, new int[] {30, 30});
        DUE.is("P12 rest", x.rest(0), 1);
        DUE.is("P12 rest", x.rest(1), LeastPays.NOT);
        x.mend(0, 1, 20);
        x.mend(1, 1, 40);
        DUE.is("P12 no rest", x.rest(0), 0);
        DUE.is("P12 guest 1", x.rest(1), 1);
        x = Due.table(new int[] {9}, new int[] {7});
        DUE.is("P12 no sum, but no lesser cost", x.rest(0), 1);
    }

    private static void rests() {
        LeastPays x = new LeastPays();
        DUE.is("P13 nobody", x.rests(-1), 1);
        DUE.is("P13 no guest", x.rests(0), LeastPays.BAD);
        DUE.is("P13 guest -2", x.rests(-2), LeastPays.BAD);
        x = Due.table(new int[] {10, 10}, new int[] {3, 5});
        x.mend(0, 5, 1);
        x.mend(0, 4, 10);
        // (0, 0): guest 0 pays 10 and by 10 pays 10: rest. (0, 10): guest 1 would not give.
        // (10, 0): rest. (10, 10): guest 0 would not give.
        DUE.is("P13 how many", x.rests(-1), 2);
        DUE.is("P13 the first", x.rests(0), 0);
        DUE.is("P13 the first", x.rests(1), 0);
        x = Due.table(new int[] {10, 10}, new int[] {3, 5});
        x.mend(0, 5, 3);
        x.mend(0, 4, 30);
        // (0, 0): guest 0 would give 10. (0, 10): guest 1 would give 0, for 0 is least of like
        // ones. (10, 0): guest 1 would give 10. (10, 10): guest 0 would give 0: 20, not 30.
        DUE.is("P13 double: none", x.rests(-1), 0);
        DUE.is("P13 double: none", x.rests(1), LeastPays.NOT);
        x = Due.table(new int[] {40, 60, 30}, new int[] {20, 10, 10});
        x.mend(0, 5, 2);
        DUE.is("P13 none", x.rests(-1), 0);
        DUE.is("P13 none", x.rests(2), LeastPays.NOT);
        x.mend(0, 5, 1);
        DUE.is("P13 guest 0's", x.rests(0), 20);
        DUE.is("P13 guest 1's", x.rests(1), 20);
        DUE.is("P13 guest 2's", x.rests(2), 10);
        DUE.is("P13 gifts stay", x.of(0, 13), 40);
        // 0, 8, 0 and 8, 0, 0 are rests: guest 0's sum counts first.
        x = Due.table(new int[] {35, 35, 9}, new int[] {0, 0, 0});
        x.mend(0, 4, 24);
        x.mend(0, 5, 2);
        x.mend(0, 6, 8);
        DUE.is("P13 two", x.rests(-1), 2);
        DUE.is("P13 guest 0's sum counts first", x.rests(0), 0);
        DUE.is("P13 guest 1's sum then", x.rests(1), 8);
    }

    private static void tooManyWays() {
        LeastPays x = new LeastPays();
        for (int i = 0; i < 6; i++) {
            x.guest(39);
        }
        DUE.holds("P13 4096 ways", x.rests(-1) >= 0);
        x.mend(0, 0, 40);
        DUE.is("P13 5120 ways", x.rests(-1), LeastPays.STATE);
        DUE.is("P13 5120 ways", x.rests(5), LeastPays.STATE);
        DUE.is("P13 BAD ahead of STATE", x.rests(6), LeastPays.BAD);
        for (int i = 0; i < 6; i++) {
            x.mend(i, 0, 99);
        }
        x.mend(0, 6, 1);
        DUE.is("P13 10 to the 12th ways", x.rests(-1), LeastPays.STATE);
    }

    private static void turns() {
        LeastPays x = new LeastPays();
        DUE.is("P14 nobody", x.turns(-1), 0);
        DUE.is("P14 no guest", x.turns(0), LeastPays.BAD);
        DUE.is("P14 guest -2", x.turns(-2), LeastPays.BAD);
        x = Due.table(new int[] {40, 40}, new int[] {40, 40});
        x.mend(0, 5, 1);
        // 0 and 0, 10 and 10, 20 and 20, then 30: guest 1 with 20 pays 30 and cannot mend it.
        DUE.is("P14 how many", x.turns(-1), 7);
        DUE.is("P14 then", x.turns(0), 30);
        DUE.is("P14 then", x.turns(1), 20);
        x = Due.table(new int[] {40, 60, 30}, new int[] {20, 10, 10});
        x.mend(0, 5, 2);
        DUE.is("P14 never", x.turns(-1), LeastPays.NOT);
        DUE.is("P14 then", x.turns(0), 0);
        DUE.is("P14 then", x.turns(1), 20);
        DUE.is("P14 gifts stay", x.of(0, 1), 20);
        x = Due.table(new int[] {40, 60, 30}, new int[] {20, 10, 10});
        x.mend(0, 5, 1);
        DUE.is("P14 one change", x.turns(-1), 1);
        DUE.is("P14 then", x.turns(1), 20);
    }

    private static void agree() {
        LeastPays x = Due.table(new int[] {40, 40, 40}, new int[] {20, 15, 10});
        x.mend(0, 5, 1);
        // By 20 each guest 2 with its 10 is least and pays the rest; by 10 of guest 0, the first
        // of like ones, the two pay 50.
        DUE.is("P15 together", x.agree(1, 0), 40);
        DUE.is("P15 lesser", x.agree(1, 1), 20);
        DUE.is("P15 other", x.agree(1, 2), 20);
        DUE.is("P15 victim", x.agree(1, 3), 2);
        // Guest 0 with its 20 is least only if both give more: 1 and 2 pay 40 in any case.
        DUE.is("P15 together", x.agree(12, 0), 40);
        DUE.is("P15 lesser", x.agree(12, 1), 0);
        DUE.is("P15 other", x.agree(12, 2), 0);
        DUE.is("P15 victim", x.agree(12, 3), LeastPays.NOT);
        DUE.is("P15 gifts stay", x.of(0, 13), 45);
        DUE.is("P15 what 4", x.agree(1, 4), LeastPays.VOID);
        DUE.is("P15 what -1", x.agree(1, -1), LeastPays.VOID);
        int[] bad = {-1, 0, 3, 10, 11, 20, 23, 30, -12, -21, 99, 101, Integer.MIN_VALUE, Integer.MAX_VALUE};
        for (int pq : bad) {
            DUE.is("P15 agree(" + pq + ")", x.agree(pq, 0), LeastPays.VOID);
        }
        // ALIKE: 2 coins lack, so that guests 2 and 3 pay nothing though they are least too.
        x = Due.table(new int[] {0, 0, 0, 0}, new int[] {0, 0, 0, 0});
        x.mend(0, 4, 2);
        DUE.is("P15 alike together", x.agree(23, 0), 0);
        DUE.is("P15 alike victim", x.agree(23, 3), 0);
        DUE.is("P15 alike: 2 pays nothing", x.agree(1, 3), LeastPays.NOT);
        x.mend(0, 4, 3);
        DUE.is("P15 alike: 2 pays one", x.agree(1, 3), 2);
    }
}
