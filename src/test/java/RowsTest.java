/** Rows that are missing, empty, or end: guests from them, told hats, elements, shifts. */
public final class RowsTest {
    private static final Due DUE = new Due();

    public static void main(String[] args) {
        missing();
        noRowOfBytes();
        empty();
        ends();
        fromAPlaceOn();
        notSo();
        ahead();
        fullWithin();
        toldHats();
        toldNumbers();
        emptyRows();
        shiftedAsTheyWere();
        DUE.end();
    }

    private static LeastPays row(int sort, int... numbers) {
        LeastPays x = new LeastPays();
        x.row(0, sort, numbers.length);
        for (int i = 0; i < numbers.length; i++) {
            x.put(0, i, numbers[i]);
        }
        return x;
    }

    private static void came(String what, LeastPays x, int i, int n, int... pursesAndGifts) {
        int before = x.count(0);
        int due = pursesAndGifts.length / 2;
        DUE.is("P3 " + what + ": how many came", x.guests(0, i, n), due);
        DUE.is("P3 " + what + ": GUESTS", x.count(0), before + due);
        for (int k = 0; k < due; k++) {
            DUE.is("P3 " + what + ": PURSE", x.of(before + k, 0), pursesAndGifts[2 * k]);
            DUE.is("P3 " + what + ": GIFT", x.of(before + k, 1), pursesAndGifts[2 * k + 1]);
        }
    }

    private static void missing() {
        LeastPays x = new LeastPays();
        came("the row is missing", x, 0, 6);
        x = row(0, 9, 9);
        x.keep(0, -1);
        came("the row was taken off", x, 0, 6);
        came("no row has no place", x, -1, 1);
    }

    private static void noRowOfBytes() {
        for (int sort = 1; sort <= 4; sort++) {
            LeastPays x = row(sort, 1, 1);
            DUE.is("P3 no ROW of bytes but of sort " + sort, x.guests(0, 0, 1), -12);
            DUE.is("P3 nobody came", x.count(0), 0);
            DUE.is("P3 nor from a place behind it", x.guests(0, 2, 1), -12);
            DUE.is("P3 BAD goes ahead", x.guests(0, 0, 7), LeastPays.BAD);
        }
        LeastPays x = row(1);
        DUE.is("P3 an empty ROW of shorts", x.guests(0, 0, 1), -12);
        x.body(0);
        x.keep(0, 0);
        DUE.is("P3 a HAT", x.guests(0, 0, 1), -12);
        for (int i = 0; i < 6; i++) {
            x.guest(9);
        }
        DUE.is("P3 a HAT, GUESTS are FULL", x.guests(0, 0, 1), -12);
    }

    private static void empty() {
        came("an empty row", row(0), 0, 1);
        came("an empty row, six", row(0), 0, 6);
    }

    private static void ends() {
        came("it ends behind one", row(0, 9, 8), 0, 6, 9, 8);
        came("it ends within the first two", row(0, 9), 0, 1);
        came("it ends within the second two", row(0, 9, 8, 7), 0, 2, 9, 8);
        came("n of them, and no more", row(0, 9, 8, 7, 6, 5, 4), 0, 2, 9, 8, 7, 6);
        came("just n", row(0, 9, 8, 7, 6), 0, 2, 9, 8, 7, 6);
        came("one fewer than n", row(0, 9, 8, 7, 6), 0, 3, 9, 8, 7, 6);
    }

    private static void fromAPlaceOn() {
        came("from place 1 on", row(0, 1, 9, 8), 1, 1, 9, 8);
        came("from an odd place on, it ends", row(0, 1, 9, 8, 7), 1, 6, 9, 8);
        came("from the last place on", row(0, 1, 9), 1, 1);
        came("from behind the end", row(0, 1, 1), 2, 1);
        came("from far behind the end", row(0, 1, 1), Integer.MAX_VALUE, 6);
        came("from where the places wrap", row(0, 1, 1, 1, 1), Integer.MAX_VALUE - 2, 6);
        came("from a place ahead of it", row(0, 1, 1, 1, 1), -1, 6);
        came("from a place ahead of it, all 0", row(0, 0, 0, 0, 0), -1, 6);
        came("from two places ahead of it, all 0", row(0, 0, 0, 0, 0), -2, 6);
        came("from far ahead of it", row(0, 1, 1), Integer.MIN_VALUE, 6);
        LeastPays x = new LeastPays();
        x.row(0, 0, 60);
        x.put(0, 58, 99);
        x.put(0, 59, 99);
        came("from the last two places on", x, 58, 6, 99, 99);
        came("from the last place of 60", x, 59, 6);
        came("from place 60", x, 60, 6);
    }

    private static void notSo() {
        came("the greatest PURSE and GIFT", row(0, 99, 99), 0, 1, 99, 99);
        came("the least PURSE and GIFT", row(0, 0, 0), 0, 1, 0, 0);
        came("PURSE 100", row(0, 100, 0), 0, 1);
        came("PURSE 127", row(0, 127, 0), 0, 1);
        came("PURSE 128 is below 0 as a byte", row(0, 128, 0), 0, 1);
        came("PURSE -1", row(0, -1, 0), 0, 1);
        came("PURSE -1, GIFT -1", row(0, -1, -1), 0, 1);
        came("GIFT -1", row(0, 50, -1), 0, 1);
        came("GIFT above PURSE by 1", row(0, 50, 51), 0, 1);
        came("GIFT of a PURSE of 0", row(0, 0, 1), 0, 1);
        came("GIFT 255 is -1 as a byte", row(0, 50, 255), 0, 1);
        came("PURSE 256 is 0 as a byte", row(0, 256, 0), 0, 1, 0, 0);
    }

    private static void ahead() {
        came("those ahead came", row(0, 9, 8, 100, 1, 7, 6), 0, 3, 9, 8);
        came("two ahead came", row(0, 9, 8, 7, 6, 5, 6, 4, 3), 0, 4, 9, 8, 7, 6);
        LeastPays x = row(0, 9, 8);
        x.guests(0, 0, 1);
        DUE.is("P3 ODDS at first", x.of(0, 2), 0);
        DUE.is("P3 ELSE at first", x.of(0, 3), 0);
        DUE.is("P3 PAID at first", x.of(0, 5), 0);
        DUE.is("P3 GUESS at first", x.of(0, 6), -1);
        DUE.is("P3 it is no CHANGE", x.count(3), 0);
        DUE.is("P3 nothing to undo", x.undo(), LeastPays.STATE);
    }

    private static void fullWithin() {
        LeastPays x = row(0, 9, 1, 9, 2, 9, 3, 9, 4);
        came("four", x, 0, 4, 9, 1, 9, 2, 9, 3, 9, 4);
        came("GUESTS are FULL within", x, 2, 3, 9, 2, 9, 3);
        came("GUESTS are FULL", x, 0, 1);
        DUE.is("P3 the sixth", x.of(5, 1), 3);
    }

    /** Guests who give 20, 10, 10, by RULE 0: each pays 20 of the bill. */
    private static LeastPays told(int... shorts) {
        LeastPays x = row(1, shorts);
        for (int i = 0; i < 3; i++) {
            x.guest(40);
            x.mend(i, 1, i == 0 ? 20 : 10);
        }
        return x;
    }

    private static void toldHats() {
        DUE.is("P24 an empty row ends before all", told().judge(0), LeastPays.NOT);
        DUE.is("P25 an empty row fits all", told().fits(0), 31);
        DUE.is("P24 it ends before", told(20).judge(0), LeastPays.NOT);
        DUE.is("P24 it ends before, yet one is not so", told(20, 19).judge(0), 1);
        DUE.is("P24 just as long", told(20, 20, 20).judge(0), LeastPays.NOT);
        DUE.is("P24 the last is not so", told(20, 20, 21).judge(0), 2);
        DUE.is("P24 the first that is not so", told(19, 19, 19).judge(0), 0);
        DUE.is("P24 what is behind GUESTS does not count", told(20, 20, 20, 1, 2).judge(0), LeastPays.NOT);
        DUE.is("P25 what is behind GUESTS does not count", told(20, 20, 20, 1).fits(0), 5);
        DUE.is("P25 it ends before", told(20, 30).fits(0), 2 | 16);
        DUE.is("P25 none", told(19).fits(0), 0);
        int[] sorts = {0, 2, 3, 4};
        for (int sort : sorts) {
            DUE.is("P24 no ROW of shorts but of sort " + sort, row(sort, 0).judge(0), -12);
            DUE.is("P25 no ROW of shorts but of sort " + sort, row(sort, 0).fits(0), -12);
        }
        LeastPays x = told(20);
        x.keep(0, -1);
        DUE.is("P24 it was taken off", x.judge(0), -11);
        DUE.is("P25 it was taken off", x.fits(0), -11);
        x.body(0);
        x.keep(0, 0);
        DUE.is("P24 a HAT", x.judge(0), -12);
        DUE.is("P25 a HAT", x.fits(0), -12);
    }

    private static void toldNumbers() {
        LeastPays x = row(1, 20 + 65536);
        x.guest(40);
        x.mend(0, 1, 20);
        x.mend(0, 4, 20);
        DUE.is("P24 a short keeps its lowest bits", x.judge(0), LeastPays.NOT);
        x.put(0, 0, -20);
        DUE.is("P24 a COST is not below 0", x.judge(0), 0);
        x.mend(0, 4, 599);
        x.put(0, 0, 599);
        DUE.is("P24 the greatest COST by RULE 0", x.judge(0), LeastPays.NOT);
        DUE.is("P25 by RULE 3 it is more", x.fits(0), 1 | 2 | 4 | 16);
    }

    private static void emptyRows() {
        for (int sort = 0; sort <= 4; sort++) {
            LeastPays x = row(sort);
            DUE.is("P36 an empty row", x.put(0, 0, 1), -13);
            DUE.is("P37 an empty row", x.element(0, 0), Due.NO_NUMBER);
            DUE.is("P38 none of an empty row", x.shift(0, 0, 0, 0, 0), 0);
            DUE.is("P38 one of an empty row", x.shift(0, 0, 0, 0, 1), -13);
            DUE.is("P39 an empty row is no HAT", x.taken(0, 0), -12);
            x.row(1, sort, 1);
            DUE.is("P37 0 at first (false)", x.element(1, 0), 0);
            DUE.is("P36 its only place", x.put(1, 0, 1), 1);
            DUE.is("P37 its only place", x.element(1, 0), 1);
            DUE.is("P38 one to an empty row", x.shift(1, 0, 0, 0, 1), -13);
            DUE.is("P38 one from an empty row", x.shift(0, 0, 1, 0, 1), -13);
            x.row(1, sort, 1);
            DUE.is("P35 the row is made anew", x.element(1, 0), 0);
        }
    }

    private static void shiftedAsTheyWere() {
        for (int sort = 0; sort <= 3; sort++) {
            LeastPays x = row(sort, 1, 2, 3, 4, 5);
            DUE.is("P38 on by one", x.shift(0, 0, 0, 1, 4), 4);
            is("P38 as they all were before", x, 0, 1, 1, 2, 3, 4);
            x = row(sort, 1, 2, 3, 4, 5);
            DUE.is("P38 back by one", x.shift(0, 1, 0, 0, 4), 4);
            is("P38 as they all were before", x, 0, 2, 3, 4, 5, 5);
            DUE.is("P38 upon itself", x.shift(0, 0, 0, 0, 5), 5);
            is("P38 upon itself", x, 0, 2, 3, 4, 5, 5);
            x.row(1, sort, 3);
            DUE.is("P38 to another", x.shift(0, 2, 1, 1, 2), 2);
            is("P38 to another", x, 1, 0, 4, 5);
            is("P38 the first stays", x, 0, 2, 3, 4, 5, 5);
        }
        LeastPays x = row(4, 1, 0, 7);
        DUE.is("P38 booleans", x.shift(0, 0, 0, 1, 2), 2);
        is("P38 booleans", x, 0, 1, 1, 0);
    }

    private static void is(String what, LeastPays x, int shelf, int... want) {
        for (int i = 0; i < want.length; i++) {
            DUE.is(what + ": place " + i, x.element(shelf, i), want[i]);
        }
        DUE.is(what + ": it ends", x.element(shelf, want.length), Due.NO_NUMBER);
    }
}
