import java.util.function.Supplier;

/** The ends of every range that the document tells, by every call that takes one: within, and one beside. */
public final class RangesTest {
    private static final Due DUE = new Due();
    private static final Supplier<LeastPays> NEW = LeastPays::new;
    private static final Supplier<LeastPays> FULL = RangesTest::full;
    private static final int BAD = LeastPays.BAD, VOID = LeastPays.VOID;
    private static final long NONE = Due.NO_NUMBER;

    public static void main(String[] args) {
        guestsAndBill();
        mendedNumbers();
        asked();
        guestNumbers();
        fewerGuests();
        putIn();
        pairs();
        dishes();
        nights();
        bodies();
        shelves();
        places();
        DUE.end();
    }

    /** Six guests, three dishes, fifty bodies, a row of each sort, and the fiftieth body on shelf 5. */
    private static LeastPays full() {
        LeastPays x = new LeastPays();
        for (int i = 0; i < 6; i++) {
            x.guest(50);
            x.mend(i, 1, i);
        }
        x.mend(0, 6, 30);
        for (int i = 0; i < 3; i++) {
            x.dish(10 * i);
        }
        for (int i = 0; i < 50; i++) {
            x.body(i % 8);
        }
        for (int sort = 0; sort < 5; sort++) {
            x.row(sort, sort, 60);
        }
        x.keep(5, 49);
        return x;
    }

    private static void guestsAndBill() {
        DUE.range("P2 PURSE", NEW, 0, 99, BAD, (x, v) -> x.guest(v));
        DUE.range("P3 SHELVES", NEW, 0, 5, BAD, (x, v) -> x.guests(v, 0, 1));
        DUE.range("P3 n", NEW, 1, 6, BAD, (x, v) -> x.guests(0, 0, v));
        DUE.range("P3 n of a row", FULL, 1, 6, BAD, (x, v) -> x.guests(0, 0, v));
        DUE.range("P6 GUESS", FULL, -1, 599, VOID, (x, v) -> x.think(0, v));
        DUE.range("P6 GUEST", FULL, 0, 5, VOID, (x, v) -> x.think(v, 7));
        DUE.range("P7 byte", NEW, 0, 255, BAD, (x, v) -> x.feed(v));
    }

    private static void mendedNumbers() {
        int[] least = {0, 0, 0, 0, 0, 0, 1};
        int[] most = {99, 50, 12, 50, 599, 4, 99};
        for (int what = 0; what <= 6; what++) {
            int w = what;
            DUE.range("P4 v of what " + w, FULL, least[w], most[w], BAD, (x, v) -> x.mend(0, w, v));
            DUE.range("P4 number of what " + w, FULL, 0, w < 4 ? 5 : 0, BAD, (x, v) -> x.mend(v, w, 1));
        }
        DUE.range("P4 what", FULL, 0, 6, BAD, (x, v) -> x.mend(0, v, 1));
        DUE.range("P4 what of the last guest", FULL, 0, 3, BAD, (x, v) -> x.mend(5, v, 1));
        DUE.range("P4 what without guests", NEW, 4, 6, BAD, (x, v) -> x.mend(0, v, 1));
        // The purse as it is bounds what is told: 50 no longer goes with a purse of 20.
        for (int what = 1; what <= 3; what += 2) {
            int w = what;
            DUE.range("P4 v by a lesser PURSE", RangesTest::lesserPurse, 0, 20, BAD, (x, v) -> x.mend(0, w, v));
        }
    }

    private static LeastPays lesserPurse() {
        LeastPays x = full();
        x.mend(0, 1, 50);
        x.mend(0, 3, 50);
        x.mend(0, 0, 20);
        return x;
    }

    private static void asked() {
        DUE.range("P5 what of a GUEST", FULL, 0, 6, VOID, (x, v) -> x.of(5, v));
        DUE.range("P5 what of the first GUEST", FULL, 0, 6, VOID, (x, v) -> x.of(0, v));
        DUE.range("P5 what of the table", FULL, 10, 17, VOID, (x, v) -> x.of(0, v));
        DUE.range("P5 what of the table, nobody there", NEW, 10, 17, VOID, (x, v) -> x.of(0, v));
        for (int what = 0; what <= 17; what++) {
            int w = what;
            if (w <= 6) {
                DUE.range("P5 number by " + w, FULL, 0, 5, VOID, (x, v) -> x.of(v, w));
            } else if (w >= 10) {
                DUE.range("P5 number by " + w, FULL, 0, 0, VOID, (x, v) -> x.of(v, w));
            } else {
                DUE.is("P5 of(0, " + w + ")", full().of(0, w), VOID);
            }
        }
    }

    private static void guestNumbers() {
        for (int part = 0; part <= 1; part++) {
            int p = part;
            DUE.range("P9 GUEST", FULL, 0, 5, VOID, (x, v) -> x.putIn(v, p));
            DUE.range("P10 GUEST", FULL, 0, 5, NONE, (x, v) -> x.mean(v, 7, p));
            DUE.range("P18 GUEST", FULL, 0, 5, VOID, (x, v) -> x.ordered(v, p));
            DUE.range("P19 GUEST", FULL, 0, 5, BAD, (x, v) -> x.thought(v, 7, p));
            DUE.range("P21 GUEST", FULL, 0, 5, NONE, (x, v) -> x.stranger(v, 7, p));
            DUE.range("P23 GUEST", FULL, 0, 5, VOID, (x, v) -> x.drawn(1, 1, v, p));
        }
        DUE.range("P11 GUEST", FULL, 0, 5, BAD, (x, v) -> x.bestMean(v));
        DUE.range("P13 GUEST, or -1", FULL, -1, 5, BAD, (x, v) -> x.rests(v));
        DUE.range("P14 GUEST, or -1", FULL, -1, 5, BAD, (x, v) -> x.turns(v));
        DUE.range("P18 BILL by guest 0", FULL, 0, 0, VOID, (x, v) -> x.ordered(v, 2));
        DUE.range("P20 GUEST, or -1", FULL, -1, 5, BAD, (x, v) -> x.given(v));
    }

    private static LeastPays two() {
        return Due.table(new int[] {30, 40}, new int[] {10, 20});
    }

    /** A number below six is no guest's either, as long as nobody came with it. */
    private static void fewerGuests() {
        Supplier<LeastPays> two = RangesTest::two;
        DUE.range("P4 of two", two, 0, 1, BAD, (x, v) -> x.mend(v, 0, 3));
        DUE.range("P5 of two", two, 0, 1, VOID, (x, v) -> x.of(v, 4));
        DUE.range("P6 of two", two, 0, 1, VOID, (x, v) -> x.think(v, 3));
        DUE.range("P9 of two", two, 0, 1, VOID, (x, v) -> x.putIn(v, 0));
        DUE.range("P10 of two", two, 0, 1, NONE, (x, v) -> x.mean(v, 3, 0));
        DUE.range("P11 of two", two, 0, 1, BAD, (x, v) -> x.bestMean(v));
        DUE.range("P13 of two", two, -1, 1, BAD, (x, v) -> x.rests(v));
        DUE.range("P14 of two", two, -1, 1, BAD, (x, v) -> x.turns(v));
        DUE.range("P18 of two", two, 0, 1, VOID, (x, v) -> x.ordered(v, 0));
        DUE.range("P19 of two", two, 0, 1, BAD, (x, v) -> x.thought(v, 3, 0));
        DUE.range("P20 of two", two, -1, 1, BAD, (x, v) -> x.given(v));
        DUE.range("P21 of two", two, 0, 1, NONE, (x, v) -> x.stranger(v, 3, 0));
        DUE.range("P23 of two", two, 0, 1, VOID, (x, v) -> x.drawn(3, 3, v, 0));
    }

    private static void putIn() {
        DUE.range("P9 what", FULL, 0, 1, VOID, (x, v) -> x.putIn(5, v));
        DUE.range("P10 v", FULL, 0, 50, NONE, (x, v) -> x.mean(5, v, 0));
        DUE.range("P10 v by a lesser PURSE", RangesTest::lesserPurse, 0, 20, NONE, (x, v) -> x.mean(0, v, 1));
        DUE.range("P10 part", FULL, 0, 1, NONE, (x, v) -> x.mean(5, 7, v));
        DUE.range("P12 what", FULL, 0, 1, BAD, (x, v) -> x.rest(v));
        DUE.range("P12 what, nobody there", NEW, 0, 1, BAD, (x, v) -> x.rest(v));
        DUE.range("P15 what", FULL, 0, 3, VOID, (x, v) -> x.agree(45, v));
    }

    /** PQ and GD hold two numbers: all of those near and far that are pairs, and all that are none. */
    private static void pairs() {
        for (int pq = -130; pq <= 130; pq++) {
            boolean pair = pq >= 0 && pq / 10 < pq % 10 && pq % 10 <= 5;
            DUE.is("P15 agree(" + pq + ", 0) is answered", full().agree(pq, 0) != VOID ? 1 : 0, pair ? 1 : 0);
            boolean ofTwo = pq == 1;
            DUE.is("P15 agree(" + pq + ", 1) of two", two().agree(pq, 1) != VOID ? 1 : 0, ofTwo ? 1 : 0);
            boolean dishOfOne = pq >= 0 && pq / 10 <= 5 && pq % 10 <= 2;
            DUE.is("P17 joy(" + pq + ", 1)", full().joy(pq, 1), dishOfOne ? 0 : BAD);
            LeastPays x = two();
            x.dish(9);
            DUE.is("P17 joy(" + pq + ", 1) of two and a dish", x.joy(pq, 1), pq == 0 || pq == 10 ? 0 : BAD);
        }
        int[] far = {Integer.MIN_VALUE, Integer.MIN_VALUE + 9, Integer.MAX_VALUE, Integer.MAX_VALUE - 5, 1001};
        for (int pq : far) {
            DUE.is("P15 agree(" + pq + ", 0)", full().agree(pq, 0), VOID);
            DUE.is("P17 joy(" + pq + ", 1)", full().joy(pq, 1), BAD);
        }
    }

    private static void dishes() {
        DUE.range("P16 PRICE", NEW, 0, 99, BAD, (x, v) -> x.dish(v));
        DUE.range("P17 JOY", FULL, 0, 99, BAD, (x, v) -> x.joy(52, v));
        DUE.range("P18 what of guest 0", FULL, 0, 2, VOID, (x, v) -> x.ordered(0, v));
        DUE.range("P18 what of guest 5", FULL, 0, 1, VOID, (x, v) -> x.ordered(5, v));
        DUE.range("P19 v", FULL, 0, 99, BAD, (x, v) -> x.thought(5, v, 0));
        DUE.range("P19 what", FULL, 0, 1, BAD, (x, v) -> x.thought(5, 7, v));
        DUE.range("P21 xg", FULL, 0, 1299, NONE, (x, v) -> x.stranger(5, v, 0));
        DUE.range("P21 part", FULL, 0, 1, NONE, (x, v) -> x.stranger(5, 7, v));
    }

    private static void nights() {
        DUE.range("P23 n", FULL, 1, 50, VOID, (x, v) -> x.drawn(7, v, 5, 1));
        DUE.range("P23 what", FULL, 0, 1, VOID, (x, v) -> x.drawn(7, 7, 5, v));
        int[] seeds = {Integer.MIN_VALUE, -1, 0, 1, Integer.MAX_VALUE};
        for (int seed : seeds) {
            DUE.holds("P23 SEED " + seed, full().drawn(seed, 1, 0, 0) >= 0);
        }
        DUE.range("P24 SHELVES", NEW, 0, 5, BAD, (x, v) -> x.judge(v));
        DUE.range("P25 SHELVES", NEW, 0, 5, BAD, (x, v) -> x.fits(v));
        DUE.range("P26 what", FULL, 0, 1, VOID, (x, v) -> x.fair(v));
    }

    private static long ranBy(LeastPays x, int body, int act) {
        x.act(body, act, 7);
        return x.count(5);
    }

    private static void bodies() {
        DUE.range("P31 KINDS", NEW, 0, 7, BAD, (x, v) -> x.body(v));
        DUE.range("P32 BODIES", FULL, 0, 49, 0, (x, v) -> ranBy(x, v, 3));
        DUE.range("P32 ACTS", FULL, 0, 3, 0, (x, v) -> ranBy(x, 49, v));
        DUE.range("P33 i of fourteen that ran", FULL, 0, 13, BAD, (x, v) -> {
            x.act(7, 3, 5);
            return x.trace(v);
        });
        DUE.range("P33 i of one that ran", FULL, 0, 0, BAD, (x, v) -> {
            x.act(7, 3, 5);
            x.act(0, 2, 5);
            return x.trace(v);
        });
        DUE.range("P34 BODIES, or -1", FULL, -1, 49, BAD, (x, v) -> x.keep(5, v));
        DUE.range("P39 KINDS", FULL, 0, 7, BAD, (x, v) -> x.taken(5, v));
        DUE.range("P40 what", FULL, 0, 5, BAD, (x, v) -> x.count(v));
    }

    private static void shelves() {
        DUE.range("P34 SHELVES", FULL, 0, 5, BAD, (x, v) -> x.keep(v, 0));
        DUE.range("P34 SHELVES that hold nothing then", NEW, 0, 5, BAD, (x, v) -> x.keep(v, -1));
        DUE.range("P35 SHELVES", NEW, 0, 5, BAD, (x, v) -> x.row(v, 0, 1));
        DUE.range("P35 sorts", NEW, 0, 4, BAD, (x, v) -> x.row(0, v, 1));
        DUE.range("P36 SHELVES", FULL, 0, 5, BAD, (x, v) -> x.put(v, 0, 1));
        DUE.range("P37 SHELVES", FULL, 0, 4, NONE, (x, v) -> x.element(v, 0));
        DUE.range("P38 SHELVES", FULL, 0, 5, BAD, (x, v) -> x.shift(v, 0, 0, 0, 1));
        DUE.range("P38 other SHELVES", FULL, 0, 5, BAD, (x, v) -> x.shift(0, 0, v, 0, 1));
        DUE.range("P39 SHELVES", FULL, 0, 5, BAD, (x, v) -> x.taken(v, 0));
        int[] below = {-1, -2, -256, Integer.MIN_VALUE};
        for (int n : below) {
            DUE.is("P35 a size of " + n, new LeastPays().row(0, 0, n), -14);
        }
        int[] above = {61, 62, 256, 316, Integer.MAX_VALUE};
        for (int n : above) {
            DUE.is("P35 a size of " + n, new LeastPays().row(0, 0, n), BAD);
        }
        DUE.is("P35 a size of 0", new LeastPays().row(5, 4, 0), 1);
        DUE.is("P35 a size of 60", new LeastPays().row(5, 4, 60), 1);
    }

    private static void places() {
        for (int shelf = 0; shelf <= 4; shelf++) {
            int s = shelf;
            DUE.range("P36 place of sort " + s, FULL, 0, 59, -13, (x, v) -> x.put(s, v, 1));
            DUE.range("P37 place of sort " + s, FULL, 0, 59, NONE, (x, v) -> x.element(s, v));
            DUE.range("P38 n of sort " + s, FULL, 0, 60, -13, (x, v) -> x.shift(s, 0, s, 0, v));
            DUE.range("P38 i of sort " + s, FULL, 0, 53, -13, (x, v) -> x.shift(s, v, s, 0, 7));
            DUE.range("P38 j of sort " + s, FULL, 0, 53, -13, (x, v) -> x.shift(s, 0, s, v, 7));
            DUE.range("P38 i by n 0", FULL, 0, 60, -13, (x, v) -> x.shift(s, v, s, 0, 0));
            DUE.range("P38 j by n 0", FULL, 0, 60, -13, (x, v) -> x.shift(s, 0, s, v, 0));
        }
    }
}
