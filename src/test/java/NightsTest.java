/** Promises 22 to 30: nights, told hats, fair rules, images, changes undone. */
public final class NightsTest {
    private static final Due DUE = new Due();

    public static void main(String[] args) {
        night();
        drawn();
        judge();
        fits();
        fair();
        images();
        undoAndRedo();
        fortyAreKept();
        DUE.end();
    }

    private static void night() {
        LeastPays x = new LeastPays();
        DUE.is("P22 nobody", x.night(), LeastPays.STATE);
        DUE.is("P22 no night", x.of(0, 17), 0);
        x = Due.table(new int[] {40, 40}, new int[] {20, 10});
        DUE.is("P22 alike", x.night(), 60);
        DUE.is("P22 paid", x.of(1, 5), 40);
        x.mend(0, 5, 3);
        DUE.is("P22 double", x.night(), 70);
        DUE.is("P22 chest", x.of(0, 16), 10);
        x.mend(0, 4, 25);
        DUE.is("P22 double and over", x.night(), 40);
        DUE.is("P22 chest", x.of(0, 16), 25);
        x.mend(0, 5, 2);
        DUE.is("P22 over", x.night(), 30);
        DUE.is("P22 chest", x.of(0, 16), 30);
        x.mend(0, 5, 4);
        DUE.is("P22 most", x.night(), 25);
        DUE.is("P22 chest", x.of(0, 16), 30);
        x.mend(0, 4, 5);
        DUE.is("P22 more than its gift", x.night(), 10);
        DUE.is("P22 chest", x.of(0, 16), 35);
        DUE.is("P22 paid", x.of(0, 5), 20 + 20 + 20 + 20 + 15 + 0);
        DUE.is("P22 paid", x.of(1, 5), 40 + 50 + 20 + 10 + 10 + 10);
        DUE.is("P22 nights", x.of(0, 17), 6);
    }

    private static void drawn() {
        LeastPays x = Due.table(new int[] {40, 40}, new int[] {20, 10});
        x.mend(0, 2, 5);
        x.mend(0, 3, 7);
        x.mend(1, 2, 9);
        x.mend(1, 3, 30);
        x.mend(0, 5, 1);
        int[] seeds = {0, 1, -1, 77, Integer.MIN_VALUE, Integer.MAX_VALUE};
        for (int seed : seeds) {
            int z = seed;
            int times = 0;
            int costs = 0;
            for (int night = 0; night < 50; night++) {
                z = z * 1103515245 + 12345;
                int a = (z >>> 8) % 12 < 5 ? 7 : 20;
                z = z * 1103515245 + 12345;
                int b = (z >>> 8) % 12 < 9 ? 30 : 10;
                int pays = a <= b ? 60 - a - b : 0;
                times += pays > 0 ? 1 : 0;
                costs += a + pays;
            }
            DUE.is("P23 how often, seed " + seed, x.drawn(seed, 50, 0, 0), times);
            DUE.is("P23 costs, seed " + seed, x.drawn(seed, 50, 0, 1), costs);
        }
        DUE.is("P23 in thought", x.of(0, 17), 0);
        DUE.is("P23 n 0", x.drawn(1, 0, 0, 0), LeastPays.VOID);
        DUE.is("P23 n 51", x.drawn(1, 51, 0, 0), LeastPays.VOID);
        DUE.is("P23 guest 2", x.drawn(1, 1, 2, 0), LeastPays.VOID);
        DUE.is("P23 guest -1", x.drawn(1, 1, -1, 0), LeastPays.VOID);
        DUE.is("P23 what 2", x.drawn(1, 1, 0, 2), LeastPays.VOID);
        DUE.is("P23 what -1", x.drawn(1, 1, 0, -1), LeastPays.VOID);
        x.mend(0, 4, 0);
        DUE.is("P23 least, but nothing lacks", x.drawn(1, 50, 1, 0), 0);
        x.mend(0, 5, 3);
        x.mend(1, 2, 0);
        x.mend(0, 2, 0);
        DUE.is("P23 as much again is besides", x.drawn(1, 50, 1, 0), 50);
    }

    private static LeastPays told(int... shorts) {
        LeastPays x = Due.table(new int[] {40, 40, 40}, new int[] {20, 10, 10});
        x.row(1, 1, shorts.length);
        for (int i = 0; i < shorts.length; i++) {
            x.put(1, i, shorts[i]);
        }
        return x;
    }

    private static void refusals(String promise, java.util.function.IntUnaryOperator call, LeastPays x) {
        DUE.is(promise + " shelf -1", call.applyAsInt(-1), LeastPays.BAD);
        DUE.is(promise + " shelf 6", call.applyAsInt(6), LeastPays.BAD);
        DUE.is(promise + " nothing", call.applyAsInt(0), -11);
        x.row(0, 2, 3);
        DUE.is(promise + " ints", call.applyAsInt(0), -12);
        x.body(0);
        x.keep(0, 0);
        DUE.is(promise + " hat", call.applyAsInt(0), -12);
    }

    private static void judge() {
        DUE.is("P24 so", told(20, 20, 20).judge(1), LeastPays.NOT);
        DUE.is("P24 first", told(21, 20, 21).judge(1), 0);
        DUE.is("P24 third", told(20, 20, 10).judge(1), 2);
        DUE.is("P24 ends before", told(20, 20).judge(1), LeastPays.NOT);
        DUE.is("P24 ends at once", told().judge(1), LeastPays.NOT);
        DUE.is("P24 behind guests", told(20, 20, 20, 7).judge(1), LeastPays.NOT);
        LeastPays x = told(20, 30, 10);
        DUE.is("P24 by the rule", x.judge(1), 1);
        x.mend(0, 5, 1);
        DUE.is("P24 by the rule", x.judge(1), LeastPays.NOT);
        x.mend(0, 4, 59);
        DUE.is("P24 by the bill", x.judge(1), 1);
        refusals("P24", x::judge, x);
    }

    private static void fits() {
        DUE.is("P25 alike, two", told(20, 20, 20).fits(1), 1 | 4);
        DUE.is("P25 first, most", told(20, 30, 10).fits(1), 2 | 16);
        DUE.is("P25 double", told(20, 40, 10).fits(1), 8);
        DUE.is("P25 none", told(0).fits(1), 0);
        DUE.is("P25 all", told(20).fits(1), 31);
        LeastPays x = told(20, 20, 20);
        x.mend(0, 5, 3);
        DUE.is("P25 whatever the rule", x.fits(1), 5);
        DUE.is("P25 the rule stays", x.of(0, 11), 3);
        refusals("P25", x::fits, x);
    }

    private static void fair() {
        LeastPays x = new LeastPays();
        DUE.is("P26 nobody", x.fair(0), LeastPays.STATE);
        DUE.is("P26 BAD ahead of STATE", x.fair(2), LeastPays.VOID);
        DUE.is("P26 -1", x.fair(-1), LeastPays.VOID);
        x = Due.table(new int[] {40, 40, 40}, new int[] {20, 10, 10});
        DUE.is("P26 least of like ones", x.fair(0), 0);
        DUE.is("P26 how much", x.fair(1), 20);
        x.mend(2, 1, 11);
        DUE.is("P26 two", x.fair(0), 2);
        DUE.is("P26 how much", x.fair(1), 20);
        x.mend(0, 4, 35);
        DUE.is("P26 most", x.fair(0), 4);
        DUE.is("P26 how much", x.fair(1), 14);
        DUE.is("P26 the rule stays", x.of(0, 11), 0);
    }

    private static void images() {
        LeastPays x = Due.table(new int[] {40, 40}, new int[] {20, 10});
        DUE.is("P28 none", x.back(), LeastPays.STATE);
        x.mend(0, 4, 25);
        x.night();
        DUE.is("P27 image", x.image(), 1);
        x.mend(0, 1, 5);
        x.mend(0, 5, 3);
        x.guest(30);
        x.mend(2, 1, 30);
        x.night();
        x.night();
        DUE.is("P27 before", x.of(0, 17), 3);
        DUE.is("P28 back", x.back(), 1);
        DUE.is("P28 gift", x.of(0, 1), 20);
        DUE.is("P28 paid", x.of(0, 5), 20);
        DUE.is("P28 chest", x.of(0, 16), 5);
        DUE.is("P28 the rule is no part", x.of(0, 11), 3);
        DUE.is("P28 a guest since: its gift", x.of(2, 1), 30);
        DUE.is("P28 a guest since: nothing paid", x.of(2, 5), 0);
        x.night();
        DUE.is("P28 again", x.back(), 1);
        x.night();
        DUE.is("P27 another image", x.image(), 2);
        x.mend(0, 0, 3);
        x.mend(0, 1, 1);
        DUE.is("P28 the latest", x.back(), 2);
        DUE.is("P28 a gift above the purse", x.of(0, 1), 20);
        LeastPays y = new LeastPays();
        DUE.is("P27 nobody", y.image(), 0);
        DUE.is("P28 nobody", y.back(), 0);
    }

    private static void undoAndRedo() {
        LeastPays x = new LeastPays();
        DUE.is("P29 none", x.undo(), LeastPays.STATE);
        DUE.is("P30 none", x.redo(), LeastPays.STATE);
        x.guest(50);
        int[] values = {40, 30, 7, 20, 99, 3, 5};
        int[] atFirst = {50, 0, 0, 0, 60, 0, 10};
        int[] asked = {0, 1, 2, 3, 10, 11, 12};
        for (int what = 0; what <= 6; what++) {
            x.mend(0, what, values[what]);
            x.mend(0, what, values[what]);
        }
        DUE.is("P29 the same number is no change", x.count(3), 7);
        for (int what = 6; what >= 0; what--) {
            DUE.is("P29 undo", x.undo(), what);
            DUE.is("P29 what it was", x.of(0, asked[what]), atFirst[what]);
        }
        DUE.is("P29 none", x.undo(), LeastPays.STATE);
        for (int what = 0; what <= 6; what++) {
            DUE.is("P30 redo", x.redo(), 6 - what);
            DUE.is("P30 what it became", x.of(0, asked[what]), values[what]);
        }
        DUE.is("P30 none", x.redo(), LeastPays.STATE);
        x.undo();
        x.undo();
        DUE.is("P30 the same number clears nothing", x.mend(0, 4, 99), 99);
        DUE.is("P30 a refusal clears nothing", x.mend(0, 4, 600), LeastPays.BAD);
        DUE.is("P30 redo", x.redo(), 1);
        x.mend(0, 4, 98);
        DUE.is("P30 another came behind", x.redo(), LeastPays.STATE);
        DUE.is("P29 undo", x.undo(), 6);
        DUE.is("P30 redo", x.redo(), 0);
    }

    private static void fortyAreKept() {
        LeastPays x = new LeastPays();
        for (int v = 1; v <= 45; v++) {
            x.mend(0, 4, v);
        }
        DUE.is("P29 forty", x.count(3), 40);
        for (int left = 39; left >= 0; left--) {
            DUE.is("P29 undo", x.undo(), left);
        }
        DUE.is("P29 none", x.undo(), LeastPays.STATE);
        DUE.is("P29 the oldest are gone", x.of(0, 10), 5);
        for (int left = 39; left >= 0; left--) {
            DUE.is("P30 redo", x.redo(), left);
        }
        DUE.is("P30 all again", x.of(0, 10), 45);
    }
}
