/** Promises 16 to 21: dishes, thoughts, strangers. */
public final class DishesTest {
    private static final Due DUE = new Due();

    public static void main(String[] args) {
        dish();
        joy();
        ordered();
        orderedOfLikeOnes();
        thought();
        given();
        stranger();
        DUE.end();
    }

    private static void dish() {
        LeastPays x = new LeastPays();
        DUE.is("P16 -1", x.dish(-1), LeastPays.BAD);
        DUE.is("P16 100", x.dish(100), LeastPays.BAD);
        DUE.is("P16 first", x.dish(0), 0);
        DUE.is("P16 second", x.dish(99), 1);
        DUE.is("P16 third", x.dish(5), 2);
        DUE.is("P16 fourth", x.dish(5), LeastPays.FULL);
        DUE.is("P16 BAD ahead of FULL", x.dish(100), LeastPays.BAD);
        DUE.is("P16 count", x.count(1), 3);
    }

    private static void joy() {
        LeastPays x = new LeastPays();
        x.guest(9);
        x.guest(9);
        DUE.is("P17 no dish", x.joy(0, 5), LeastPays.BAD);
        x.dish(5);
        x.dish(6);
        DUE.is("P17 first", x.joy(11, 99), 0);
        DUE.is("P17 again", x.joy(11, 0), 99);
        DUE.is("P17 another", x.joy(10, 7), 0);
        DUE.is("P17 100", x.joy(0, 100), LeastPays.BAD);
        DUE.is("P17 -1", x.joy(0, -1), LeastPays.BAD);
        int[] bad = {2, 12, 20, 21, -1, -10, -11, 100, Integer.MIN_VALUE, Integer.MAX_VALUE};
        for (int gd : bad) {
            DUE.is("P17 joy(" + gd + ")", x.joy(gd, 1), LeastPays.BAD);
        }
        x.guest(9);
        DUE.is("P17 a late guest has none", x.joy(21, 1), 0);
    }

    private static void ordered() {
        LeastPays x = Due.table(new int[] {50, 50}, new int[] {10, 0});
        DUE.is("P18 no dishes", x.ordered(1, 0), LeastPays.NOT);
        DUE.is("P18 no dishes", x.ordered(0, 1), -10);
        DUE.is("P18 no dishes", x.ordered(0, 2), 0);
        x.mend(0, 5, 1);
        x.dish(30);
        x.dish(12);
        x.joy(0, 40);
        x.joy(1, 39);
        x.joy(10, 35);
        x.joy(11, 15);
        // Guest 1 is least and pays all above 10: 30 gains it 5 once the 10 are eaten up, and
        // guest 0 orders the dearest at no cost to itself.
        DUE.is("P18 guest 0", x.ordered(0, 0), 0);
        DUE.is("P18 guest 0", x.ordered(0, 1), 30);
        DUE.is("P18 guest 1", x.ordered(1, 0), 0);
        DUE.is("P18 guest 1", x.ordered(1, 1), 35 - 50);
        DUE.is("P18 bill", x.ordered(0, 2), 60);
        DUE.is("P18 the bill told stays", x.of(0, 10), 60);
        DUE.is("P18 bill of guest 1", x.ordered(1, 2), LeastPays.VOID);
        DUE.is("P18 what 3", x.ordered(0, 3), LeastPays.VOID);
        DUE.is("P18 what -1", x.ordered(0, -1), LeastPays.VOID);
        DUE.is("P18 guest 2", x.ordered(2, 0), LeastPays.VOID);
        DUE.is("P18 guest -1", x.ordered(-1, 0), LeastPays.VOID);
        DUE.is("P18 nobody", new LeastPays().ordered(0, 2), LeastPays.VOID);
    }

    private static void orderedOfLikeOnes() {
        LeastPays x = Due.table(new int[] {50}, new int[] {0});
        x.dish(20);
        x.dish(30);
        x.dish(40);
        x.joy(0, 20);
        DUE.is("P18 none of like ones", x.ordered(0, 0), LeastPays.NOT);
        x.joy(1, 35);
        x.joy(2, 45);
        DUE.is("P18 least of like ones", x.ordered(0, 0), 1);
        DUE.is("P18 worth", x.ordered(0, 1), 5);
        DUE.is("P18 bill", x.ordered(0, 2), 30);
    }

    private static void thought() {
        LeastPays x = Due.table(new int[] {40, 99}, new int[] {0, 0});
        DUE.is("P19 least, no text", x.thought(0, 30, 0), 60);
        DUE.is("P19 greatest, no text", x.thought(0, 30, 1), 61);
        DUE.is("P19 the purse holds", x.thought(0, 40, 0), 80);
        DUE.is("P19 the purse holds", x.thought(0, 40, 1), 599);
        DUE.is("P19 never", x.thought(0, 41, 0), LeastPays.NOT);
        DUE.is("P19 never", x.thought(0, 41, 1), LeastPays.NOT);
        Due.enact(x, "b%100=7?9;0-1");
        DUE.is("P19 least by law", x.thought(0, 9, 0), 7);
        DUE.is("P19 greatest by law", x.thought(0, 9, 1), 507);
        DUE.is("P19 held to 0", x.thought(0, 0, 0), 0);
        DUE.is("P19 held to 0", x.thought(0, 0, 1), 599);
        DUE.is("P19 v 100", x.thought(0, 100, 0), LeastPays.BAD);
        DUE.is("P19 v 99", x.thought(0, 99, 0), LeastPays.NOT);
        DUE.is("P19 v -1", x.thought(0, -1, 0), LeastPays.BAD);
        DUE.is("P19 what 2", x.thought(0, 1, 2), LeastPays.BAD);
        DUE.is("P19 what -1", x.thought(0, 1, -1), LeastPays.BAD);
        DUE.is("P19 guest 2", x.thought(2, 1, 0), LeastPays.BAD);
    }

    private static void given() {
        LeastPays x = Due.table(new int[] {40, 15, 99}, new int[] {1, 2, 3});
        DUE.is("P20 all", x.given(-1), 55);
        DUE.is("P20 one", x.given(1), 15);
        x.think(2, 299);
        DUE.is("P20 by its own guess", x.given(2), 99);
        DUE.is("P20 all", x.given(-1), 134);
        x.mend(0, 4, 31);
        DUE.is("P20 who guesses nothing knows the bill", x.given(0), 10);
        x.think(0, 0);
        DUE.is("P20 a guess of 0", x.given(0), 0);
        Due.enact(x, "p/2+n");
        DUE.is("P20 by law", x.given(-1), 20 + 8 + 51);
        DUE.is("P20 gifts stay", x.of(0, 13), 6);
        DUE.is("P20 guest 3", x.given(3), LeastPays.BAD);
        DUE.is("P20 guest -2", x.given(-2), LeastPays.BAD);
        DUE.is("P20 nobody", new LeastPays().given(-1), 0);
    }

    private static void stranger() {
        LeastPays x = Due.table(new int[] {40, 40}, new int[] {20, 10});
        x.mend(0, 5, 1);
        // Guest 1 pays 10 + 30 alone; by a stranger with 10, behind it, 10 + 20; with 9 only 10.
        DUE.is("P21 never", x.stranger(1, 9, 0), 40);
        DUE.is("P21 of like ones", x.stranger(1, 1210, 0), 30);
        DUE.is("P21 always", x.stranger(1, 1209, 0), 10);
        DUE.is("P21 five of twelve", x.stranger(1, 509, 0), 55);
        DUE.is("P21 five of twelve", x.stranger(1, 509, 1), 2);
        DUE.is("P21 greatest", x.stranger(0, 1299, 0), 20);
        x.mend(0, 2, 12);
        DUE.is("P21 by gifts, not by odds", x.stranger(0, 0, 0), 20);
        DUE.is("P21 1300", x.stranger(1, 1300, 0), Due.NO_NUMBER);
        DUE.is("P21 -1", x.stranger(1, -1, 0), Due.NO_NUMBER);
        DUE.is("P21 part 2", x.stranger(1, 5, 2), Due.NO_NUMBER);
        DUE.is("P21 part -1", x.stranger(1, 5, -1), Due.NO_NUMBER);
        DUE.is("P21 guest 2", x.stranger(2, 5, 0), Due.NO_NUMBER);
        x = Due.table(new int[] {0}, new int[] {0});
        x.mend(0, 4, 0);
        DUE.is("P21 0 above", x.stranger(0, 505, 0), 0);
        DUE.is("P21 by 1", x.stranger(0, 505, 1), 1);
        x = Due.table(new int[] {9, 9, 9, 9, 9, 9}, new int[] {9, 9, 9, 9, 9, 9});
        DUE.is("P21 the seventh of like ones", x.stranger(5, 1209, 0), 9);
        x.mend(0, 4, 69);
        DUE.is("P21 six of seven pay one", x.stranger(5, 1209, 0), 10);
        x.mend(0, 5, 2);
        DUE.is("P21 two", x.stranger(0, 1208, 0), 12);
        DUE.is("P21 two", x.stranger(1, 1208, 0), 9);
    }
}
