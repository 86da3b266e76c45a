/** Ints and longs that wrap, and rows that keep the lowest bits. */
public final class WrapsTest {
    private static final Due DUE = new Due();
    private static final int LEAST = Integer.MIN_VALUE, MOST = Integer.MAX_VALUE;

    public static void main(String[] args) {
        lawsThatWrap();
        lawsByZero();
        heldWithinThePurse();
        actsThatWrap();
        seedsThatWrap();
        lowestBits();
        DUE.end();
    }

    /** 1 or 0 by a law for a purse of 99. */
    private static void so(String text, int want) {
        LeastPays x = Due.table(new int[] {99}, new int[] {0});
        DUE.is("P8 " + text, Due.enact(x, text), 1);
        DUE.is("P8 worth of " + text, x.given(0), want);
    }

    /** 8192 * 512 * 512 is 2 to the 31st: as an int the least of all. */
    private static void lawsThatWrap() {
        so("8192*512*512<0", 1);
        so("8192*512*512+8192*512*512", 0);
        so("8192*512*512-1>0", 1);
        so("-(8192*512*512)=8192*512*512", 1);
        so("8192*512*512/-1=8192*512*512", 1);
        so("8192*512*512%-1", 0);
        so("8192*512*512*-1<0", 1);
        so("8192*512*1024", 0);
        so("(8192*512*512-1+7)+8192*512*512", 6);
        so("0-8192*512*512-1>0", 1);
        so("9999*9999*9999=" + "0-1530*1000*1000", 0);
        int cubed = 9999 * 9999 * 9999;
        so("9999*9999*9999%97+97", Math.min(99, cubed % 97 + 97));
        so("9999*9999*9999/9999/9999<9999", 1);
    }

    private static void lawsByZero() {
        so("7/0", 0);
        so("7%0", 0);
        so("0/0", 0);
        so("0%0", 0);
        so("8192*512*512/0", 0);
        so("8192*512*512%0", 0);
        so("7/0+5", 5);
        so("7/(3-3)=7%(3-3)", 1);
        so("-7/2+5", 2);
        so("7/-2+5", 2);
        so("-7/-2", 3);
        so("-7%2+5", 4);
        so("7%-2+5", 6);
        so("-7%-2+5", 4);
    }

    private static void heldWithinThePurse() {
        LeastPays x = Due.table(new int[] {50}, new int[] {0});
        Due.enact(x, "b-100");
        int[] guesses = {0, 99, 100, 101, 149, 150, 151, 599};
        int[] given = {0, 0, 0, 1, 49, 50, 50, 50};
        for (int i = 0; i < guesses.length; i++) {
            x.think(0, guesses[i]);
            DUE.is("P20 held within 0 .. PURSE by " + guesses[i], x.given(0), given[i]);
        }
        DUE.is("P19 held to 0: least", x.thought(0, 0, 0), 0);
        DUE.is("P19 held to 0: greatest", x.thought(0, 0, 1), 100);
        DUE.is("P19 held to PURSE: least", x.thought(0, 50, 0), 150);
        DUE.is("P19 held to PURSE: greatest", x.thought(0, 50, 1), 599);
        DUE.is("P19 above PURSE", x.thought(0, 51, 0), LeastPays.NOT);
        Due.enact(x, "8192*512*512");
        DUE.is("P20 the least int", x.given(0), 0);
        Due.enact(x, "8192*512*512-1");
        DUE.is("P20 the greatest int", x.given(0), 50);
        x.mend(0, 0, 0);
        DUE.is("P20 a PURSE of 0", x.given(0), 0);
    }

    /** Bodies 0 to 7 of kinds 0 to 7. */
    private static LeastPays hats() {
        LeastPays x = new LeastPays();
        for (int kind = 0; kind <= 7; kind++) {
            x.body(kind);
        }
        return x;
    }

    private static void actsThatWrap() {
        int[] xs = {MOST, MOST - 1, MOST - 7, LEAST, LEAST + 1, LEAST / 2, MOST / 2 + 1, -1, 0};
        for (int v : xs) {
            LeastPays x = hats();
            DUE.is("P32 1 gives " + v, x.act(0, 0, v), v);
            DUE.is("P32 20 gives " + v, x.act(1, 0, v), v + 1 + 3);
            DUE.is("P32 70 gives " + v, x.act(6, 0, v), (v + 6) * 2);
            DUE.is("P32 10 owes " + v, x.act(0, 1, v), v * 2);
            DUE.is("P32 30 owes " + v, x.act(2, 1, v), -((v + 2) * 2));
            DUE.is("P32 41 owes " + v, x.act(3, 1, v), -((v + 1 + 3) * 2));
            DUE.is("P32 80 owes " + v, x.act(7, 1, v), (v + 7 + 3) * 2 + ((2 ^ 7) - 12));
            DUE.is("P32 11 lacks " + v, x.act(1, 2, v), v ^ 1);
            DUE.is("P32 40 lacks " + v, x.act(3, 2, v), (v ^ 3) * 3);
            DUE.is("P32 50 lacks " + v, x.act(4, 2, v), (v ^ 4) - (2 + 4 + 3));
            DUE.is("P32 2 tells " + v, x.act(6, 3, v), (v + 6) * 2 * 2 - (1 ^ 6));
            DUE.is("P32 60 tells " + v, x.act(5, 3, v), (-((v + 1 + 5) * 2) - (1 ^ 5) * 3) ^ 5);
            int owes = (v + 7 + 3) * 2 + ((2 ^ 7) - 12);
            DUE.is("P32 81 tells " + v, x.act(7, 3, v), owes - ((1 ^ 7) - 12) - 1);
        }
    }

    private static void seedsThatWrap() {
        int[] seeds = {LEAST, LEAST + 1, -12345, -1, 0, 1, 12345, MOST - 1, MOST};
        for (int seed : seeds) {
            for (int odds = 0; odds <= 12; odds += 3) {
                LeastPays x = Due.table(new int[] {99, 99}, new int[] {30, 40});
                x.mend(0, 4, 0);
                x.mend(1, 2, odds);
                x.mend(1, 3, 1);
                int z = seed;
                int costs = 0;
                for (int night = 0; night < 13; night++) {
                    z = z * 1103515245 + 12345;
                    z = z * 1103515245 + 12345;
                    costs += (z >>> 8) % 12 < odds ? 1 : 40;
                }
                DUE.is("P23 SEED " + seed + ", ODDS " + odds, x.drawn(seed, 13, 1, 1), costs);
                DUE.is("P23 the other draws too, by ODDS 0", x.drawn(seed, 13, 0, 1), 13 * 30);
            }
        }
    }

    private static void lowestBits() {
        long[] told = {0, 1, -1, 127, 128, 255, 256, -128, -129, 32767, 32768, 65535, 65536, -32769,
            MOST, MOST + 1L, LEAST, LEAST - 1L, 1L << 32, 1L << 63, Long.MAX_VALUE, 0x5555_5555_5555_5555L};
        for (long v : told) {
            long[] kept = {(byte) v, (short) v, (int) v, v, v != 0 ? 1 : 0};
            for (int sort = 0; sort <= 4; sort++) {
                LeastPays x = new LeastPays();
                x.row(0, sort, 2);
                x.put(0, 0, 1);
                DUE.is("P36 put " + v, x.put(0, 1, v), 1);
                DUE.is("P37 sort " + sort + " keeps of " + v, x.element(0, 1), kept[sort]);
                DUE.is("P37 the other stays", x.element(0, 0), 1);
                x.shift(0, 1, 0, 0, 1);
                DUE.is("P38 sort " + sort + " shifts " + v, x.element(0, 0), kept[sort]);
            }
        }
    }
}
