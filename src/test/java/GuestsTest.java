/** Promises 1 to 8: a new object, guests, the bill, the tape and the law. */
public final class GuestsTest {
    private static final Due DUE = new Due();

    public static void main(String[] args) {
        newObject();
        guest();
        guestsFromRows();
        guestsThatEnd();
        mend();
        costsByRules();
        ofTheTable();
        think();
        feed();
        lawsThatStand();
        faults();
        DUE.end();
    }

    private static void newObject() {
        LeastPays x = new LeastPays();
        for (int what = 0; what <= 5; what++) {
            DUE.is("P1 count(" + what + ")", x.count(what), 0);
        }
        DUE.is("P1 bill", x.of(0, 10), 60);
        DUE.is("P1 rule", x.of(0, 11), 0);
        DUE.is("P1 step", x.of(0, 12), 10);
        DUE.is("P1 hat", x.of(0, 13), 0);
        DUE.is("P1 chest", x.of(0, 16), 0);
        DUE.is("P1 nights", x.of(0, 17), 0);
        DUE.is("P1 shelf", x.judge(5), -11);
        DUE.is("P1 image", x.back(), LeastPays.STATE);
    }

    private static void guest() {
        LeastPays x = new LeastPays();
        DUE.is("P2 guest(-1)", x.guest(-1), LeastPays.BAD);
        DUE.is("P2 guest(100)", x.guest(100), LeastPays.BAD);
        for (int i = 0; i < 6; i++) {
            DUE.is("P2 guest", x.guest(i == 0 ? 0 : 99), i);
        }
        DUE.is("P2 seventh", x.guest(5), LeastPays.FULL);
        DUE.is("P2 BAD ahead of FULL", x.guest(100), LeastPays.BAD);
        DUE.is("P2 purse", x.of(5, 0), 99);
        for (int what = 1; what <= 3; what++) {
            DUE.is("P2 nothing at first", x.of(5, what), 0);
        }
        DUE.is("P2 guess", x.of(5, 6), -1);
        DUE.is("P2 count", x.count(0), 6);
    }

    private static LeastPays withBytes(int... bytes) {
        LeastPays x = new LeastPays();
        x.row(2, 0, bytes.length);
        for (int i = 0; i < bytes.length; i++) {
            x.put(2, i, bytes[i]);
        }
        return x;
    }

    private static void guestsFromRows() {
        LeastPays x = withBytes(7, 40, 10, 30, 30, 5, 0);
        DUE.is("P3 shelf -1", x.guests(-1, 0, 1), LeastPays.BAD);
        DUE.is("P3 shelf 6", x.guests(6, 0, 1), LeastPays.BAD);
        DUE.is("P3 n 0", x.guests(2, 0, 0), LeastPays.BAD);
        DUE.is("P3 n 7", x.guests(2, 0, 7), LeastPays.BAD);
        DUE.is("P3 missing", x.guests(1, 0, 3), 0);
        x.row(3, 1, 4);
        DUE.is("P3 shorts", x.guests(3, 0, 1), -12);
        x.body(0);
        x.keep(4, 0);
        DUE.is("P3 hat", x.guests(4, 0, 1), -12);
        DUE.is("P3 two of three", x.guests(2, 1, 2), 2);
        DUE.is("P3 purse 0", x.of(0, 0), 40);
        DUE.is("P3 gift 0", x.of(0, 1), 10);
        DUE.is("P3 purse 1", x.of(1, 0), 30);
        DUE.is("P3 gift 1", x.of(1, 1), 30);
        DUE.is("P3 no change", x.count(3), 0);
    }

    private static void guestsThatEnd() {
        LeastPays x = withBytes(9, 1, 8, 2, 7);
        DUE.is("P3 ends within a two", x.guests(2, 0, 6), 2);
        DUE.is("P3 behind the end", x.guests(2, 5, 6), 0);
        DUE.is("P3 far behind the end", x.guests(2, Integer.MAX_VALUE, 6), 0);
        DUE.is("P3 ahead of the row", x.guests(2, -2, 6), 0);
        DUE.is("P3 far ahead of the row", x.guests(2, Integer.MIN_VALUE, 6), 0);
        x = withBytes(9, 1, 8, 9, 7, 7);
        DUE.is("P3 gift above purse", x.guests(2, 0, 6), 1);
        x = withBytes(99, 1, 100, 9);
        DUE.is("P3 purse above 99", x.guests(2, 0, 6), 1);
        x = withBytes(50, -1);
        DUE.is("P3 gift below 0", x.guests(2, 0, 6), 0);
        x = withBytes(1, 1, 2, 2, 3, 3, 4, 4);
        DUE.is("P3 four", x.guests(2, 0, 4), 4);
        DUE.is("P3 till full", x.guests(2, 2, 4), 2);
        DUE.is("P3 full", x.guests(2, 2, 4), 0);
        DUE.is("P3 the last", x.of(5, 1), 3);
    }

    private static void mend() {
        LeastPays x = new LeastPays();
        x.guest(50);
        DUE.is("P4 no guest", x.mend(1, 0, 5), LeastPays.BAD);
        DUE.is("P4 guest -1", x.mend(-1, 0, 5), LeastPays.BAD);
        int[] greatest = {99, 50, 12, 50, 599, 4, 99};
        int[] least = {0, 0, 0, 0, 0, 0, 1};
        int[] atFirst = {50, 0, 0, 0, 60, 0, 10};
        for (int what = 6; what >= 0; what--) {
            String call = "P4 mend what " + what;
            DUE.is(call + " above", x.mend(0, what, greatest[what] + 1), LeastPays.BAD);
            DUE.is(call + " below", x.mend(0, what, least[what] - 1), LeastPays.BAD);
            DUE.is(call + " greatest", x.mend(0, what, greatest[what]), atFirst[what]);
            DUE.is(call + " least", x.mend(0, what, least[what]), greatest[what]);
            DUE.is(call + " again", x.mend(0, what, least[what]), least[what]);
        }
        DUE.is("P4 what -1", x.mend(0, -1, 0), LeastPays.BAD);
        DUE.is("P4 what 7", x.mend(0, 7, 0), LeastPays.BAD);
        DUE.is("P4 number 1 for the bill", x.mend(1, 4, 0), LeastPays.BAD);
        x.guest(9);
        DUE.is("P4 number 1 for the step", x.mend(1, 6, 3), LeastPays.BAD);
        DUE.is("P4 bill without guests", new LeastPays().mend(0, 4, 7), 60);
        x.mend(1, 1, 9);
        x.mend(1, 3, 8);
        x.mend(1, 0, 3);
        DUE.is("P4 gift stands above", x.of(1, 1), 9);
        DUE.is("P4 else stands above", x.of(1, 3), 8);
        DUE.is("P4 told again above", x.mend(1, 1, 9), LeastPays.BAD);
    }

    private static void costs(LeastPays x, int rule, int... costs) {
        x.mend(0, 5, rule);
        for (int i = 0; i < costs.length; i++) {
            DUE.is("P5 cost of " + i + " by rule " + rule, x.of(i, 4), costs[i]);
        }
    }

    private static void costsByRules() {
        int[] purses = {40, 40, 40, 40};
        LeastPays x = Due.table(purses, new int[] {20, 5, 9, 5});
        x.mend(0, 4, 50);
        costs(x, 0, 20, 11, 9, 10);
        costs(x, 1, 20, 16, 9, 5);
        costs(x, 2, 20, 11, 9, 10);
        costs(x, 3, 20, 21, 9, 5);
        costs(x, 4, 20, 16, 9, 5);
        x = Due.table(purses, new int[] {7, 30, 3, 30});
        x.mend(0, 4, 75);
        costs(x, 2, 9, 30, 6, 30);
        x.mend(0, 4, 61);
        costs(x, 0, 7, 30, 3, 30);
        costs(x, 3, 7, 30, 6, 30);
        costs(x, 4, 7, 21, 3, 30);
        x.mend(0, 4, 10);
        costs(x, 4, 7, 0, 3, 30);
        DUE.is("P5 lack", x.of(0, 14), 0);
        DUE.is("P5 over", x.of(0, 15), 60);
        x = Due.table(new int[] {9}, new int[] {4});
        costs(x, 2, 60);
        costs(x, 3, 64);
    }

    private static void ofTheTable() {
        LeastPays x = Due.table(new int[] {40, 30}, new int[] {20, 15});
        DUE.is("P5 hat", x.of(0, 13), 35);
        DUE.is("P5 lack", x.of(0, 14), 25);
        DUE.is("P5 over", x.of(0, 15), 0);
        for (int what = 10; what <= 17; what++) {
            DUE.is("P5 of(1, " + what + ")", x.of(1, what), LeastPays.VOID);
        }
        int[] bad = {-1, 7, 8, 9, 18, Integer.MAX_VALUE, Integer.MIN_VALUE};
        for (int what : bad) {
            DUE.is("P5 of(0, " + what + ")", x.of(0, what), LeastPays.VOID);
        }
        DUE.is("P5 of(2, 0)", x.of(2, 0), LeastPays.VOID);
        DUE.is("P5 of(-1, 0)", x.of(-1, 0), LeastPays.VOID);
    }

    private static void think() {
        LeastPays x = new LeastPays();
        DUE.is("P6 nobody", x.think(0, 5), LeastPays.VOID);
        x.guest(9);
        DUE.is("P6 600", x.think(0, 600), LeastPays.VOID);
        DUE.is("P6 -2", x.think(0, -2), LeastPays.VOID);
        DUE.is("P6 599", x.think(0, 599), -1);
        DUE.is("P6 0", x.think(0, 0), 599);
        DUE.is("P6 of", x.of(0, 6), 0);
        DUE.is("P6 -1", x.think(0, -1), 0);
        DUE.is("P6 no change", x.count(3), 0);
    }

    private static void feed() {
        LeastPays x = new LeastPays();
        DUE.is("P7 -1", x.feed(-1), LeastPays.BAD);
        DUE.is("P7 256", x.feed(256), LeastPays.BAD);
        for (int i = 1; i <= 120; i++) {
            DUE.is("P7 feed", x.feed(i % 2 == 0 ? 0 : 255), i);
        }
        DUE.is("P7 full", x.feed(7), LeastPays.FULL);
        DUE.is("P7 BAD ahead of FULL", x.feed(256), LeastPays.BAD);
        DUE.is("P7 count", x.count(2), 120);
        DUE.is("P7 law", x.law(), -100);
        DUE.is("P7 empty then", x.count(2), 0);
    }

    /** The worth of a text for guest 1 of three with a purse of 99, rule 2, who thinks 60. */
    private static void law(String text, int want) {
        LeastPays x = Due.table(new int[] {99, 99, 99}, new int[] {0, 0, 0});
        x.mend(0, 5, 2);
        DUE.is("P8 law " + text, Due.enact(x, text), 1);
        DUE.is("P8 gives by " + text, x.given(1), want);
    }

    private static void lawsThatStand() {
        law("7", 7);
        law("0098", 98);
        law("b", 60);
        law("p-b", 39);
        law("n*10+k", 13);
        law("r", 2);
        law("9999", 99);
        law("-5", 0);
        law("-5+7", 2);
        law("2+3*4", 14);
        law("(2+3)*4", 20);
        law("20-5-3", 12);
        law("60/7/2", 4);
        law("60%7*3", 12);
        law("5/0+6%0", 0);
        law("0-7/2+9", 6);
        law("9+-7/2", 6);
        law("9+-7%4", 6);
        law("5|0", 1);
        law("0|0", 0);
        law("5&2", 1);
        law("5&0", 0);
        law("1|0&0", 1);
        law("3<4+1", 1);
        law("4<4", 0);
        law("4=4", 1);
        law("5>4", 1);
        law("(3<4)<2", 1);
        law("!0+!5*2", 1);
        law("!!7", 1);
        law("!-!0", 0);
        law("((((((b))))))", 60);
        law("------8", 8);
        law("!-(!(-0))", 0);
        law("0?5", 0);
        law("0?5;7", 7);
        law("1?5;7", 5);
        law("0?5;3?0;7", 0);
        law("n=0?11;n=1?22;33", 22);
        law("9;8", 9);
        law("9999*9999*9999<0", 9999 * 9999 * 9999 < 0 ? 1 : 0);
        law("9999*9999*9999/9999=9998", 0);
        StringBuilder most = new StringBuilder("1");
        for (int i = 0; i < 59; i++) {
            most.append("+1");
        }
        law(most + "1", 70);
    }

    private static void fault(String text, int place) {
        LeastPays x = Due.table(new int[] {99}, new int[] {0});
        Due.enact(x, "17");
        DUE.is("P8 fault of " + text, Due.enact(x, text), -100 - place);
        DUE.is("P8 tape is empty after " + text, x.count(2), 0);
        DUE.is("P8 the law before stands after " + text, x.given(0), 17);
    }

    private static void faults() {
        fault("", 0);
        fault(";", 0);
        fault("b;", 2);
        fault("b;;", 2);
        fault("b?", 2);
        fault("b?1?", 3);
        fault("?1", 0);
        fault("(b?1)", 2);
        fault("(b;1)", 2);
        fault("(b", 2);
        fault("()", 1);
        fault("b)", 1);
        fault("12345", 4);
        fault("12b", 2);
        fault("bb", 1);
        fault("b1", 1);
        fault("x", 0);
        fault("B", 0);
        fault("b b", 1);
        fault(" b", 0);
        fault("1<2<3", 3);
        fault("1<2=3", 3);
        fault("1<(2>3)<", 7);
        fault("1<", 2);
        fault("1+", 2);
        fault("1++2", 2);
        fault("1|", 2);
        fault("1||2", 2);
        fault("1&&2", 2);
        fault("1*/2", 2);
        fault("1!2", 1);
        fault("!", 1);
        fault("-!(", 3);
        fault("(((((((b)))))))", 6);
        fault("-------8", 6);
        fault("!-(!-(b+-1))", 8);
        fault("!-(!-(b+!1))", 8);
        fault("!-(!-(b-1)-1)-", 14);
        fault("b" + (char) 233, 1);
        fault("b" + (char) 0, 1);
    }
}
