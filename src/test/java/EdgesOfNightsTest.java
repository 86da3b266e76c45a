/** Terms 4: nights in deed and by draws, fair rules, changes undone and done again, images. */
public final class EdgesOfNightsTest {
    private static final Due DUE = new Due();

    public static void main(String[] args) {
        nightsInDeed();
        drawnByOdds();
        drawnBesides();
        drawnInThought();
        judgedAsTheyAre();
        fairOfLikeOnes();
        theSameNumberIsNone();
        theLatestFirst();
        asLongAsNoOtherCame();
        whatIsNoChange();
        fortyAreKept();
        fortyOfManyKinds();
        undoneAboveThePurse();
        anImage();
        guestsThatCameSince();
        whatAnImageKeepsNot();
        imagesAndChanges();
        DUE.end();
    }

    private static LeastPays table(int bill, int rule, int... gifts) {
        LeastPays x = new LeastPays();
        for (int i = 0; i < gifts.length; i++) {
            x.guest(99);
            x.mend(i, 1, gifts[i]);
        }
        x.mend(0, 4, bill);
        x.mend(0, 5, rule);
        return x;
    }

    private static void nightsInDeed() {
        LeastPays x = table(60, 1, 20, 10);
        for (int night = 1; night <= 5; night++) {
            DUE.is("P22 all COSTS together", x.night(), 60);
            DUE.is("P5 NIGHTS", x.of(0, 17), night);
            DUE.is("P5 PAID of 0", x.of(0, 5), 20 * night);
            DUE.is("P5 PAID of 1", x.of(1, 5), 40 * night);
            DUE.is("P5 THE CHEST", x.of(0, 16), 0);
        }
        x.guest(30);
        DUE.is("P22 with one who came late", x.night(), 60);
        DUE.is("P5 PAID so far", x.of(2, 5), 30);
        DUE.is("P5 PAID so far", x.of(1, 5), 210);
        DUE.is("P22 GIFTS stay", x.of(0, 13), 30);
        DUE.is("P22 a NIGHT is no CHANGE", x.count(3), 3);
        x = table(0, 4, 20);
        DUE.is("P22 all is given back", x.night(), 0);
        DUE.is("P5 PAID", x.of(0, 5), 0);
        DUE.is("P22 a NIGHT nonetheless", x.of(0, 17), 1);
        x = table(60, 1, 20, 10);
        x.stranger(0, 1299, 0);
        DUE.is("P22 a stranger in thought pays nothing", x.night(), 60);
        x.guest(9);
        DUE.is("P5 nor did the next who came", x.of(2, 5), 0);
        x = table(599, 3, 99, 99, 99, 99, 99, 99);
        DUE.is("P22 the dearest NIGHT", x.night(), 594 + 5 + 99);
        DUE.is("P5 THE CHEST", x.of(0, 16), 99);
    }

    private static void drawnByOdds() {
        LeastPays x = table(0, 0, 30, 40);
        x.mend(1, 3, 7);
        for (int odds = 0; odds <= 12; odds += 12) {
            x.mend(1, 2, odds);
            DUE.is("P23 ODDS " + odds + ", 1 night", x.drawn(5, 1, 1, 1), odds == 0 ? 40 : 7);
            DUE.is("P23 ODDS " + odds + ", 50 nights", x.drawn(5, 50, 1, 1), odds == 0 ? 2000 : 350);
        }
        for (int odds = 0; odds <= 12; odds++) {
            x.mend(0, 2, odds);
            x.mend(1, 2, 12 - odds);
            int[] costs = new int[2];
            int z = 5;
            for (int draw = 0; draw < 100; draw++) {
                z = z * 1103515245 + 12345;
                boolean changes = (z >>> 8) % 12 < (draw % 2 == 0 ? odds : 12 - odds);
                costs[draw % 2] += draw % 2 == 0 ? (changes ? 0 : 30) : (changes ? 7 : 40);
            }
            DUE.is("P23 by numbers, night by night: 0, ODDS " + odds, x.drawn(5, 50, 0, 1), costs[0]);
            DUE.is("P23 by numbers, night by night: 1", x.drawn(5, 50, 1, 1), costs[1]);
        }
        x = table(0, 0, 30);
        x.mend(0, 3, 50);
        x.mend(0, 2, 12);
        x.mend(0, 0, 5);
        DUE.is("P23 ELSE above a PURSE stands", x.drawn(5, 2, 0, 1), 100);
    }

    private static void drawnBesides() {
        LeastPays x = table(60, 1, 30, 30);
        DUE.is("P23 nothing lacks", x.drawn(1, 50, 0, 0), 0);
        x.mend(0, 4, 61);
        DUE.is("P23 one coin lacks", x.drawn(1, 50, 0, 0), 50);
        DUE.is("P23 the other pays nothing besides", x.drawn(1, 50, 1, 0), 0);
        DUE.is("P23 all its COSTS", x.drawn(1, 50, 0, 1), 31 * 50);
        x.mend(0, 5, 0);
        DUE.is("P23 ALIKE: the one coin", x.drawn(1, 50, 0, 0), 50);
        DUE.is("P23 ALIKE: no coin left", x.drawn(1, 50, 1, 0), 0);
        x.mend(0, 5, 2);
        DUE.is("P23 TWO: half of one coin is none", x.drawn(1, 50, 1, 0), 0);
        x.mend(0, 4, 62);
        DUE.is("P23 TWO: a coin each", x.drawn(1, 50, 1, 0), 50);
        x.mend(0, 4, 0);
        x.mend(0, 5, 3);
        DUE.is("P23 DOUBLE: its GIFT again", x.drawn(1, 50, 0, 0), 50);
        DUE.is("P23 DOUBLE: all its COSTS", x.drawn(1, 50, 0, 1), 60 * 50);
        x.mend(0, 1, 0);
        DUE.is("P23 DOUBLE: a GIFT of 0 again", x.drawn(1, 50, 0, 0), 0);
        x.mend(0, 5, 4);
        DUE.is("P23 MOST: given back", x.drawn(1, 50, 1, 1), 0);
        DUE.is("P23 MOST: nothing besides", x.drawn(1, 50, 1, 0), 0);
    }

    private static void drawnInThought() {
        LeastPays x = table(60, 0, 30, 10);
        x.mend(0, 2, 12);
        x.mend(0, 3, 1);
        x.drawn(3, 50, 0, 1);
        DUE.is("P23 GIFTS stay", x.of(0, 1), 30);
        DUE.is("P23 nobody PAID", x.of(0, 5), 0);
        DUE.is("P23 no NIGHTS", x.of(0, 17), 0);
        DUE.is("P23 no CHEST", x.of(0, 16), 0);
        DUE.is("P23 the same SEED, the same nights", x.drawn(3, 50, 0, 1), x.drawn(3, 50, 0, 1));
    }

    private static void judgedAsTheyAre() {
        LeastPays x = table(60, 1, 20, 10);
        x.row(0, 1, 2);
        x.put(0, 0, 20);
        x.put(0, 1, 40);
        x.mend(1, 2, 12);
        x.mend(1, 3, 99);
        DUE.is("P24 by GIFTS, not by ODDS", x.judge(0), LeastPays.NOT);
        DUE.is("P25 FIRST, MOST and ALIKE", x.fits(0), 1 | 2 | 16);
        x.mend(0, 5, 2);
        DUE.is("P24 RULE as it is", x.judge(0), 0);
        DUE.is("P25 whatever RULE is", x.fits(0), 1 | 2 | 16);
        x.mend(0, 5, 1);
        x.mend(1, 1, 11);
        DUE.is("P24 GIFTS as they are: 11 and 29", x.judge(0), LeastPays.NOT);
        x.mend(0, 1, 21);
        DUE.is("P24 GIFTS as they are", x.judge(0), 0);
        x.mend(0, 1, 20);
        x.mend(0, 4, 61);
        DUE.is("P24 BILL as it is", x.judge(0), 1);
        DUE.is("P25 none", x.fits(0), 0);
    }

    private static void fair(String what, LeastPays x, int rule, int cost) {
        DUE.is("P26 " + what + ": the RULE", x.fair(0), rule);
        DUE.is("P26 " + what + ": how much", x.fair(1), cost);
    }

    private static void fairOfLikeOnes() {
        fair("all RULES are alike", table(60, 4, 60), 0, 60);
        fair("nothing to pay", table(0, 3, 0, 0), 0, 0);
        fair("ALIKE of like ones", table(60, 3, 10, 10, 10), 0, 20);
        fair("FIRST is as good as ALIKE", table(60, 0, 40, 10), 0, 40);
        fair("TWO alone", table(60, 0, 20, 0, 11), 2, 25);
        fair("TWO and ALIKE: the least number", table(60, 4, 10, 10), 0, 30);
        fair("MOST gives back", table(60, 0, 50, 20), 4, 40);
        fair("MOST gives back, the other has as much", table(30, 0, 20, 20), 0, 20);
        fair("RULE is not asked", table(60, 1, 20, 0, 11), 2, 25);
        LeastPays x = table(60, 1, 20, 0, 11);
        x.stranger(0, 1299, 0);
        fair("a stranger is none of all", x, 2, 25);
        DUE.is("P26 RULE stays", x.of(0, 11), 1);
    }

    private static void theSameNumberIsNone() {
        LeastPays x = table(60, 0, 20);
        int[] now = {99, 20, 0, 0, 60, 0, 10};
        for (int what = 0; what <= 6; what++) {
            DUE.is("P4 telling the same number", x.mend(0, what, now[what]), now[what]);
            DUE.is("P29 is no CHANGE", x.count(3), 1);
        }
        x.undo();
        x.mend(0, 1, 0);
        DUE.is("P30 telling the same number does not come behind", x.redo(), 0);
        DUE.is("P30 done again", x.of(0, 1), 20);
        x.mend(0, 1, 21);
        x.mend(0, 1, 20);
        DUE.is("P29 there and back are two", x.count(3), 3);
    }

    private static void theLatestFirst() {
        LeastPays x = table(60, 0, 0, 0);
        int[][] told = {{0, 0, 50}, {1, 0, 40}, {1, 1, 30}, {0, 2, 6}, {1, 3, 20}, {0, 4, 70}, {0, 5, 2}, {0, 6, 5}};
        for (int[] t : told) {
            x.mend(t[0], t[1], t[2]);
        }
        int[] before = {99, 99, 0, 0, 0, 60, 0, 10};
        for (int i = told.length - 1; i >= 0; i--) {
            int what = told[i][1] < 4 ? told[i][1] : told[i][1] + 6;
            DUE.is("P29 ahead of it", x.of(told[i][0], what), told[i][2]);
            DUE.is("P29 how many may still be", x.undo(), i);
            DUE.is("P29 as it was", x.of(told[i][0], what), before[i]);
            DUE.is("P40 changes that may be UNDONE", x.count(3), i);
        }
        DUE.is("P29 none", x.undo(), LeastPays.STATE);
        for (int i = 0; i < told.length; i++) {
            int what = told[i][1] < 4 ? told[i][1] : told[i][1] + 6;
            DUE.is("P30 how many may still be", x.redo(), told.length - 1 - i);
            DUE.is("P30 as it became", x.of(told[i][0], what), told[i][2]);
            DUE.is("P40 changes that may be UNDONE", x.count(3), i + 1);
        }
        DUE.is("P30 none", x.redo(), LeastPays.STATE);
    }

    private static void asLongAsNoOtherCame() {
        LeastPays x = table(60, 0, 0);
        x.mend(0, 1, 1);
        x.mend(0, 1, 2);
        x.mend(0, 1, 3);
        x.undo();
        x.undo();
        DUE.is("P30 a refused one is none", x.mend(0, 1, 100), LeastPays.BAD);
        DUE.is("P30 done again", x.redo(), 1);
        x.mend(0, 2, 5);
        DUE.is("P30 another came behind", x.redo(), LeastPays.STATE);
        DUE.is("P29 that one", x.undo(), 2);
        DUE.is("P29 and the one ahead", x.undo(), 1);
        DUE.is("P30 both again", x.redo(), 1);
        DUE.is("P30 both again", x.redo(), 0);
        DUE.is("P30 the one that was cut off is not among them", x.of(0, 1), 2);
    }

    private static void whatIsNoChange() {
        LeastPays x = table(60, 0, 20);
        x.mend(0, 1, 30);
        x.undo();
        x.guest(50);
        x.think(0, 7);
        x.dish(9);
        x.joy(0, 9);
        x.night();
        x.image();
        x.body(0);
        x.keep(0, 0);
        x.row(0, 0, 2);
        x.guests(0, 0, 1);
        Due.enact(x, "7");
        DUE.is("P40 one CHANGE may be UNDONE", x.count(3), 1);
        DUE.is("P30 none of these came behind", x.redo(), 0);
        DUE.is("P30 done again", x.of(0, 1), 30);
    }

    private static void fortyAreKept() {
        for (int changes = 38; changes <= 43; changes++) {
            LeastPays x = new LeastPays();
            for (int i = 1; i <= changes; i++) {
                x.mend(0, 4, 100 + i);
            }
            int kept = Math.min(40, changes);
            DUE.is("P40 of " + changes, x.count(3), kept);
            for (int left = kept - 1; left >= 0; left--) {
                DUE.is("P29 of " + changes, x.undo(), left);
            }
            DUE.is("P29 no more of " + changes, x.undo(), LeastPays.STATE);
            DUE.is("P29 the BILL ahead of those kept", x.of(0, 10), changes <= 40 ? 60 : 100 + changes - 40);
        }
        LeastPays x = new LeastPays();
        for (int i = 1; i <= 40; i++) {
            x.mend(0, 4, 100 + i);
        }
        x.undo();
        x.undo();
        x.mend(0, 4, 300);
        DUE.is("P40 two undone, one came", x.count(3), 39);
        x.mend(0, 4, 301);
        x.mend(0, 4, 302);
        DUE.is("P40 the oldest goes", x.count(3), 40);
        DUE.is("P29 the latest first", x.undo(), 39);
        DUE.is("P29 the latest first", x.of(0, 10), 301);
    }

    /** Changes of many kinds, told by v: the v-th of them. */
    private static int[] change(int v) {
        int[][] kinds = {{0, 0}, {1, 1}, {2, 2}, {1, 3}, {0, 4}, {0, 5}, {0, 6}, {2, 0}, {0, 1}, {1, 2}};
        int[] kind = kinds[v % kinds.length];
        return new int[] {kind[0], kind[1], kind[1] == 5 ? (v / 10 + 1) % 5 : v / 10 + 1 + (kind[1] == 0 ? 50 : 0)};
    }

    private static int told(LeastPays x, int[] change) {
        return x.of(change[0], change[1] < 4 ? change[1] : change[1] + 6);
    }

    private static void fortyOfManyKinds() {
        for (int more = 0; more <= 30; more++) {
            LeastPays x = table(60, 0, 0, 0, 0);
            int[] was = new int[40 + more];
            for (int v = 0; v < 40 + more; v++) {
                int[] c = change(v);
                was[v] = told(x, c);
                DUE.is("P4 what it was", x.mend(c[0], c[1], c[2]), was[v]);
            }
            for (int v = 39 + more; v >= more; v--) {
                int[] c = change(v);
                DUE.is("P29 ahead of it, " + more + " too many", told(x, c), c[2]);
                DUE.is("P29 how many, " + more + " too many", x.undo(), v - more);
                DUE.is("P29 as it was, " + more + " too many", told(x, c), was[v]);
            }
            DUE.is("P29 none, " + more + " too many", x.undo(), LeastPays.STATE);
            for (int v = more; v < 40 + more; v++) {
                int[] c = change(v);
                DUE.is("P30 how many, " + more + " too many", x.redo(), 39 + more - v);
                DUE.is("P30 as it became, " + more + " too many", told(x, c), c[2]);
            }
        }
    }

    private static void undoneAboveThePurse() {
        LeastPays x = table(60, 0, 50);
        x.mend(0, 3, 45);
        x.mend(0, 0, 10);
        x.mend(0, 1, 9);
        DUE.is("P29 its GIFT", x.undo(), 3);
        DUE.is("P29 above a PURSE, as it stood", x.of(0, 1), 50);
        DUE.is("P30 within it again", x.redo(), 0);
        DUE.is("P30 within it again", x.of(0, 1), 9);
        x.undo();
        DUE.is("P29 the PURSE", x.undo(), 2);
        DUE.is("P29 the PURSE", x.of(0, 0), 99);
        DUE.is("P29 ELSE stood", x.of(0, 3), 45);
    }

    private static void anImage() {
        LeastPays x = table(25, 0, 20, 10);
        DUE.is("P28 there is none", x.back(), LeastPays.STATE);
        DUE.is("P27 NIGHTS", x.image(), 0);
        x.night();
        x.night();
        x.mend(0, 1, 3);
        x.mend(1, 1, 4);
        DUE.is("P28 NIGHTS as they were", x.back(), 0);
        int[] now = {x.of(0, 17), x.of(0, 16), x.of(0, 1), x.of(1, 1), x.of(0, 5), x.of(1, 5)};
        int[] were = {0, 0, 20, 10, 0, 0};
        String[] names = {"NIGHTS", "THE CHEST", "GIFT 0", "GIFT 1", "PAID 0", "PAID 1"};
        for (int i = 0; i < now.length; i++) {
            DUE.is("P28 " + names[i] + " laid back", now[i], were[i]);
        }
        x.night();
        DUE.is("P27 the latest image", x.image(), 1);
        x.night();
        x.night();
        DUE.is("P28 to the latest", x.back(), 1);
        DUE.is("P28 THE CHEST", x.of(0, 16), 5);
        DUE.is("P28 PAID", x.of(1, 5), 10);
        x.night();
        DUE.is("P28 once more", x.back(), 1);
        DUE.is("P28 PAID once more", x.of(1, 5), 10);
    }

    private static void guestsThatCameSince() {
        LeastPays x = new LeastPays();
        x.image();
        x.guest(50);
        x.mend(0, 1, 40);
        x.guest(50);
        x.mend(1, 2, 5);
        x.night();
        DUE.is("P28 an image of nobody", x.back(), 0);
        DUE.is("P28 they stay", x.count(0), 2);
        DUE.is("P28 GIFT as it is", x.of(0, 1), 40);
        DUE.is("P28 PAID 0", x.of(0, 5), 0);
        DUE.is("P28 PAID 0", x.of(1, 5), 0);
        DUE.is("P28 ODDS as they are", x.of(1, 2), 5);
        x.night();
        DUE.is("P27 now with both", x.image(), 1);
        x.mend(0, 1, 1);
        x.mend(1, 1, 2);
        x.night();
        DUE.is("P28 now with both", x.back(), 1);
        DUE.is("P28 its GIFT", x.of(0, 1), 40);
        DUE.is("P28 its GIFT of 0", x.of(1, 1), 0);
        DUE.is("P28 its PAID", x.of(0, 5), 40);
        DUE.is("P28 its PAID", x.of(1, 5), 20);
    }

    private static void whatAnImageKeepsNot() {
        LeastPays x = table(60, 1, 20);
        x.image();
        int[] told = {30, 20, 4, 7, 61, 2, 11};
        for (int what = 0; what <= 6; what++) {
            x.mend(0, what, told[what]);
        }
        x.think(0, 5);
        x.dish(9);
        x.feed('b');
        x.body(0);
        x.back();
        int[] asked = {0, 2, 3, 10, 11, 12, 6};
        int[] are = {30, 4, 7, 61, 2, 11, 5};
        for (int i = 0; i < asked.length; i++) {
            DUE.is("P28 of(0, " + asked[i] + ") is no part of it", x.of(0, asked[i]), are[i]);
        }
        DUE.is("P28 nor DISHES", x.count(1), 1);
        DUE.is("P28 nor THE TAPE", x.count(2), 1);
        DUE.is("P28 nor BODIES", x.count(4), 1);
    }

    private static void imagesAndChanges() {
        LeastPays x = table(60, 0, 20);
        x.image();
        x.mend(0, 1, 30);
        x.back();
        DUE.is("P28 no CHANGE is lost", x.count(3), 2);
        DUE.is("P29 the number it was", x.undo(), 1);
        DUE.is("P29 the number it was", x.of(0, 1), 20);
        x.back();
        DUE.is("P30 no other came behind", x.redo(), 0);
        DUE.is("P30 the number it became", x.of(0, 1), 30);
        x.mend(0, 0, 10);
        DUE.is("P28 a GIFT above the PURSE", x.back(), 0);
        DUE.is("P28 as it was", x.of(0, 1), 20);
    }
}
