/** Terms 3: dishes of like worth, guests who know what is behind them, guesses, a stranger. */
public final class EdgesOfDishesTest {
    private static final Due DUE = new Due();

    public static void main(String[] args) {
        joys();
        noneOfLikeOnes();
        thoseBehindDoLikewise();
        thoseBehindOrderToo();
        orderedBills();
        withoutAText();
        leastAndGreatestThought();
        thoughtByTheTable();
        thoughtByEach();
        ownGuesses();
        strangerOrNot();
        strangerAsOneOfThem();
        strangerByFractions();
        DUE.end();
    }

    private static LeastPays table(int rule, int... gifts) {
        LeastPays x = new LeastPays();
        for (int i = 0; i < gifts.length; i++) {
            x.guest(99);
            x.mend(i, 1, gifts[i]);
        }
        x.mend(0, 5, rule);
        return x;
    }

    private static void joys() {
        LeastPays x = table(0, 0, 0, 0, 0, 0, 0);
        for (int dish = 0; dish <= 2; dish++) {
            x.dish(0);
            for (int guest = 0; guest <= 5; guest++) {
                DUE.is("P17 0 at first", x.joy(10 * guest + dish, 10 * guest + dish + 1), 0);
            }
        }
        for (int guest = 5; guest >= 0; guest--) {
            for (int dish = 2; dish >= 0; dish--) {
                DUE.is("P17 what it was", x.joy(10 * guest + dish, 0), 10 * guest + dish + 1);
            }
        }
        DUE.is("P17 JOY is no CHANGE", x.count(3), 0);
        x = new LeastPays();
        x.dish(5);
        DUE.is("P17 nobody has it yet", x.joy(0, 9), LeastPays.BAD);
        x.guest(9);
        DUE.is("P17 0 of a GUEST that came behind the DISH", x.joy(0, 9), 0);
        DUE.is("P17 no DISH yet", x.joy(1, 9), LeastPays.BAD);
        x.dish(5);
        DUE.is("P17 0 of a DISH that came behind the GUEST", x.joy(1, 9), 0);
    }

    private static void ordered(String what, LeastPays x, int guest, int dish, int worth) {
        DUE.is("P18 " + what + ": the DISH", x.ordered(guest, 0), dish);
        DUE.is("P18 " + what + ": JOY less COST", x.ordered(guest, 1), worth);
    }

    private static void noneOfLikeOnes() {
        LeastPays x = table(1, 0);
        ordered("no DISHES", x, 0, LeastPays.NOT, 0);
        x.dish(30);
        ordered("JOY 0", x, 0, LeastPays.NOT, 0);
        x.joy(0, 30);
        ordered("as much JOY as COST: none", x, 0, LeastPays.NOT, 0);
        x.joy(0, 31);
        ordered("one more", x, 0, 0, 1);
        x.dish(40);
        x.joy(1, 41);
        ordered("of like ones the least DISH", x, 0, 0, 1);
        x.dish(0);
        x.joy(2, 1);
        ordered("of three like ones the least DISH", x, 0, 0, 1);
        x.joy(2, 2);
        ordered("the last DISH, for nothing", x, 0, 2, 2);
        x.joy(0, 32);
        ordered("of the first and the last the least", x, 0, 0, 2);
        x.joy(1, 43);
        ordered("the one between", x, 0, 1, 3);
        LeastPays free = table(1, 0);
        free.dish(0);
        ordered("for nothing, but no JOY: none", free, 0, LeastPays.NOT, 0);
    }

    /** MOST: if guest 0 orders none, guest 1 eats its 20 up; it would have them back otherwise. */
    private static void thoseBehindDoLikewise() {
        LeastPays x = table(4, 20, 0);
        x.dish(20);
        x.joy(0, 19);
        x.joy(10, 15);
        ordered("it knows what is behind it", x, 0, 0, -1);
        ordered("it knows what those ahead ordered", x, 1, LeastPays.NOT, 0);
        DUE.is("P18 BILL then", x.ordered(0, 2), 20);
        x.joy(10, 0);
        ordered("nobody behind it orders", x, 0, LeastPays.NOT, 0);
        DUE.is("P18 BILL then", x.ordered(0, 2), 0);
        x.joy(10, 21);
        ordered("it orders in any case", x, 1, 0, 1);
        ordered("so guest 0 orders too", x, 0, 0, -1);
        DUE.is("P18 BILL then", x.ordered(0, 2), 40);
    }

    /** MOST: by its own DISH guest 0 gets nothing back, since guest 1 eats up what is left. */
    private static void thoseBehindOrderToo() {
        LeastPays x = table(4, 20, 0);
        x.dish(10);
        x.joy(0, 5);
        x.joy(10, 5);
        ordered("it knows that the next orders too", x, 0, LeastPays.NOT, -10);
        ordered("the next orders what is over", x, 1, 0, 5);
        DUE.is("P18 BILL then", x.ordered(0, 2), 10);
        x.joy(0, 11);
        ordered("it is worth it nonetheless", x, 0, 0, -9);
        ordered("the next orders all the same", x, 1, 0, 5);
        DUE.is("P18 BILL then", x.ordered(0, 2), 20);
        x = table(4, 20, 20, 0);
        x.dish(10);
        x.joy(0, 5);
        x.joy(20, 5);
        ordered("it knows the last too", x, 0, 0, 5);
        ordered("JOY 0", x, 1, LeastPays.NOT, -20);
        ordered("the last, out of what is over", x, 2, 0, 5);
    }

    private static void orderedBills() {
        LeastPays x = table(0, 0, 0, 0, 0, 0, 0);
        x.mend(0, 4, 599);
        DUE.is("P18 nothing to order, whatever BILL is", x.ordered(0, 2), 0);
        for (int i = 0; i < 3; i++) {
            x.dish(99);
        }
        for (int guest = 0; guest <= 5; guest++) {
            x.joy(10 * guest + 2, 99);
        }
        DUE.is("P18 all order the dearest", x.ordered(0, 2), 594);
        for (int guest = 0; guest <= 5; guest++) {
            ordered("in like parts", x, guest, 2, 0);
        }
        x.mend(0, 1, 99);
        x.mend(1, 1, 99);
        DUE.is("P18 a COST that is GIFT alone", x.ordered(0, 1), 0);
        DUE.is("P18 BILL is as it was", x.of(0, 10), 599);
        DUE.is("P18 nobody paid", x.of(0, 5), 0);
        x = table(0, 99, 99);
        x.dish(9);
        ordered("GIFTS as they are, all over", x, 1, LeastPays.NOT, -99);
        x.joy(10, 1);
        ordered("a DISH out of what is over", x, 1, 0, -98);
    }

    private static void withoutAText() {
        for (int guests = 1; guests <= 6; guests++) {
            LeastPays x = table(0, new int[guests]);
            int last = guests - 1;
            int[] guesses = {0, 1, guests - 1, guests, guests + 1, 59, 60, 61, 599};
            for (int b : guesses) {
                x.think(last, b);
                DUE.is("P20 " + b + " by " + guests + ", cut", x.given(last), Math.min(99, b / guests));
            }
            int greatest = Math.min(99, 599 / guests);
            DUE.is("P19 the least b by " + guests, x.thought(last, greatest, 0), greatest * guests);
            DUE.is("P19 the greatest b by " + guests, x.thought(last, greatest, 1), 599);
            DUE.is("P19 0 by " + guests, x.thought(last, 0, 0), 0);
            DUE.is("P19 0 by " + guests, x.thought(last, 0, 1), guests - 1);
        }
    }

    private static void thought(String text, int v, int least, int greatest) {
        LeastPays x = table(0, 0, 0);
        DUE.is("P8 " + text, Due.enact(x, text), 1);
        DUE.is("P19 the least b, " + text + " gives " + v, x.thought(1, v, 0), least);
        DUE.is("P19 the greatest b, " + text + " gives " + v, x.thought(1, v, 1), greatest);
    }

    private static void leastAndGreatestThought() {
        thought("b=0?7;8", 7, 0, 0);
        thought("b=599?7;8", 7, 599, 599);
        thought("b=0|b=599?7;8", 7, 0, 599);
        thought("b=600?7;8", 7, LeastPays.NOT, LeastPays.NOT);
        thought("b<0?7;8", 7, LeastPays.NOT, LeastPays.NOT);
        thought("b=300?7;8", 7, 300, 300);
        thought("b=300?7;8", 8, 0, 599);
        thought("99", 99, 0, 599);
        thought("100", 99, 0, 599);
        thought("-1", 0, 0, 599);
        thought("b=1?7", 0, 0, 599);
        thought("b=0?7", 0, 1, 599);
        thought("99", 98, LeastPays.NOT, LeastPays.NOT);
    }

    private static void thoughtByTheTable() {
        LeastPays x = table(3, 0, 0);
        Due.enact(x, "p+n*10+k*2+r-99");
        DUE.is("P20 PURSE, GUEST, GUESTS, RULE", x.given(0), 7);
        DUE.is("P20 the GUEST", x.given(1), 17);
        x.guest(90);
        DUE.is("P20 GUESTS as they are", x.given(0), 9);
        DUE.is("P20 its PURSE", x.given(2), 20);
        x.mend(0, 5, 0);
        DUE.is("P20 RULE as it is", x.given(0), 6);
        x.mend(2, 0, 89);
        DUE.is("P20 PURSE as it is", x.given(2), 16);
        x.mend(2, 0, 3);
        DUE.is("P20 below 0", x.given(2), 0);
        Due.enact(x, "b");
        DUE.is("P20 BILL at first", x.given(0), 60);
        x.mend(0, 4, 61);
        DUE.is("P20 BILL as it is", x.given(0), 61);
        DUE.is("P20 PURSE holds it", x.given(2), 3);
    }

    private static void thoughtByEach() {
        LeastPays x = new LeastPays();
        int[] purses = {10, 20, 30};
        for (int purse : purses) {
            x.guest(purse);
        }
        Due.enact(x, "b-p-n");
        for (int guest = 0; guest <= 2; guest++) {
            int purse = purses[guest];
            DUE.is("P19 the least by " + guest, x.thought(guest, purse, 0), 2 * purse + guest);
            DUE.is("P19 the greatest by " + guest, x.thought(guest, purse, 1), 599);
            DUE.is("P19 above the PURSE of " + guest, x.thought(guest, purse + 1, 0), LeastPays.NOT);
            DUE.is("P19 the greatest for 0 by " + guest, x.thought(guest, 0, 1), purse + guest);
        }
    }

    private static void ownGuesses() {
        LeastPays x = table(0, 1, 2, 3);
        Due.enact(x, "b");
        x.think(0, 0);
        x.think(1, 99);
        DUE.is("P20 a GUESS of 0", x.given(0), 0);
        DUE.is("P20 a GUESS of its own", x.given(1), 99);
        DUE.is("P20 without one: BILL", x.given(2), 60);
        DUE.is("P20 THE HAT then", x.given(-1), 159);
        DUE.is("P20 in thought", x.of(0, 13), 6);
        x.think(1, -1);
        DUE.is("P20 BILL again", x.given(1), 60);
        x.think(2, 599);
        DUE.is("P19 a GUESS plays no part", x.thought(2, 98, 1), 98);
    }

    private static void stranger(String what, LeastPays x, int guest, int xg, long above, long below) {
        DUE.is("P21 " + what + ": above", x.stranger(guest, xg, 0), above);
        DUE.is("P21 " + what + ": below", x.stranger(guest, xg, 1), below);
    }

    private static void strangerOrNot() {
        LeastPays x = table(1, 20, 10);
        stranger("x 0, g 0: never", x, 1, 0, 40, 1);
        stranger("x 0, g 99: never", x, 1, 99, 40, 1);
        stranger("x 12, g 0: always", x, 1, 1200, 10, 1);
        stranger("x 12, g 99: always, nothing lacks", x, 1, 1299, 10, 1);
        stranger("x 1, g 0", x, 1, 100, 75, 2);
        stranger("x 11, g 0", x, 1, 1100, 25, 2);
        stranger("x 6, g 0", x, 1, 600, 25, 1);
        stranger("x 1, g 9", x, 1, 109, 75, 2);
        stranger("x 1, g 10, behind it", x, 1, 110, 235, 6);
        stranger("x 1, g 11", x, 1, 111, 469, 12);
        stranger("who gives enough", x, 0, 777, 20, 1);
        DUE.is("P21 nobody came", x.count(0), 2);
        x.mend(1, 2, 12);
        x.mend(1, 3, 99);
        x.mend(0, 2, 12);
        stranger("by GIFTS, not by ODDS", x, 1, 0, 40, 1);
    }

    private static void strangerAsOneOfThem() {
        stranger("ALIKE: of like ones, left over by numbers", table(0, 10, 10, 10), 0, 1210, 15, 1);
        stranger("ALIKE: of like ones", table(0, 10, 10, 10), 2, 1210, 15, 1);
        LeastPays x = table(0, 10, 10, 10);
        x.mend(0, 4, 61);
        stranger("ALIKE: what is left over goes ahead of it", x, 0, 1210, 16, 1);
        x.mend(0, 4, 63);
        stranger("ALIKE: the third of what is left over", x, 2, 1210, 16, 1);
        x.mend(0, 4, 42);
        stranger("ALIKE: less lacks than they are", x, 2, 1210, 10, 1);
        stranger("ALIKE: the stranger alone is least", x, 2, 1209, 10, 1);
        stranger("FIRST: behind all", table(1, 10, 10), 0, 1210, 40, 1);
        stranger("FIRST: the stranger is least", table(1, 10, 10), 0, 1209, 10, 1);
        stranger("TWO: one is no longer alone", table(2, 10), 0, 1209, 30, 1);
        stranger("TWO: the next of like ones ahead of it", table(2, 10, 5, 10), 0, 1210, 22, 1);
        stranger("TWO: the stranger is next", table(2, 10, 5, 10), 0, 1209, 10, 1);
        stranger("DOUBLE: the stranger is least", table(3, 10, 10), 0, 1209, 10, 1);
        stranger("DOUBLE: it is not, being behind all", table(3, 10, 10), 0, 1210, 50, 1);
        x = table(4, 40, 30);
        x.mend(0, 4, 50);
        stranger("MOST: more is over", x, 0, 1240, 0, 1);
        stranger("MOST: the stranger gives most", x, 0, 1241, 40, 1);
        stranger("MOST: half of the nights", x, 0, 641, 30, 1);
        stranger("the seventh", table(1, 9, 8, 7, 6, 5, 4), 5, 1203, 4, 1);
        stranger("the seventh, behind all", table(1, 9, 8, 7, 6, 5, 4), 5, 1204, 21, 1);
    }

    private static void strangerByFractions() {
        // Guest 0 pays 13 if the stranger with 0 comes not, and 1 if it comes.
        LeastPays x = table(1, 1);
        x.mend(0, 4, 13);
        int[] above = {13, 12, 11, 10, 9, 8, 7, 6, 5, 4, 3, 2, 1};
        for (int comes = 0; comes <= 12; comes++) {
            stranger("x " + comes, x, 0, 100 * comes, above[comes], 1);
        }
        x.mend(0, 4, 2);
        int[] lowest = {1, 12, 6, 4, 3, 12, 2, 12, 3, 4, 6, 12, 1};
        for (int comes = 0; comes <= 12; comes++) {
            stranger("x " + comes, x, 0, 100 * comes, (24 - comes) * lowest[comes] / 12, lowest[comes]);
        }
        x.mend(0, 1, 0);
        x.mend(0, 4, 0);
        stranger("0 by 1", x, 0, 505, 0, 1);
    }
}
