/** Promises 31 to 40: acts that come from above, shelves, counts. */
public final class ShelvesTest {
    private static final Due DUE = new Due();

    public static void main(String[] args) {
        body();
        acts();
        trace();
        keep();
        row();
        putAndElement();
        shift();
        taken();
        count();
        DUE.end();
    }

    private static void body() {
        LeastPays x = new LeastPays();
        DUE.is("P31 -1", x.body(-1), LeastPays.BAD);
        DUE.is("P31 8", x.body(8), LeastPays.BAD);
        for (int i = 0; i < 50; i++) {
            DUE.is("P31 body", x.body(i % 8), i);
        }
        DUE.is("P31 full", x.body(0), LeastPays.FULL);
        DUE.is("P31 BAD ahead of FULL", x.body(8), LeastPays.BAD);
        DUE.is("P31 count", x.count(4), 50);
    }

    private static void ran(LeastPays x, String call, int... bodies) {
        DUE.is(call + " ran", x.count(5), bodies.length);
        for (int i = 0; i < bodies.length; i++) {
            DUE.is(call + " trace " + i, x.trace(i), bodies[i]);
        }
        DUE.is(call + " trace behind", x.trace(bodies.length), LeastPays.BAD);
        DUE.is(call + " trace ahead", x.trace(-1), LeastPays.BAD);
    }

    /** Bodies 0 to 7 of kinds 0 to 7, so that each one's number is its kind. */
    private static void acts() {
        LeastPays x = new LeastPays();
        for (int kind = 0; kind < 8; kind++) {
            x.body(kind);
        }
        act(x, 0, 0, 5, 5, 1);
        act(x, 0, 1, 5, 10, 10, 1);
        act(x, 0, 2, 5, 5, 11);
        act(x, 0, 3, 5, 10 - 1, 2, 10, 1, 11);
        act(x, 1, 0, 5, 5 + 1 + 3, 20, 1);
        act(x, 1, 1, 5, 18, 10, 20, 1);
        act(x, 2, 1, 5, -14, 30, 10, 1);
        act(x, 2, 3, 5, -14 - (1 ^ 2), 2, 30, 10, 1, 11);
        act(x, 3, 2, 5, (5 ^ 3) * 3, 40, 11);
        act(x, 3, 1, 5, -(6 + 3) * 2, 41, 30, 10, 1);
        act(x, 4, 2, 5, (5 ^ 4) - (2 + 4 + 3), 50, 11, 20, 1);
        act(x, 5, 3, 5, (-(6 + 5) * 2 - (1 ^ 5) * 3) ^ 5, 60, 2, 41, 30, 10, 1, 40, 11);
        act(x, 6, 0, 5, 22, 70, 1);
        act(x, 6, 1, 5, 44, 10, 70, 1);
        int lacks2 = (2 ^ 7) - (2 + 7 + 3);
        int lacks1 = (1 ^ 7) - (2 + 7 + 3);
        int owes = (5 + 7 + 3) * 2 + lacks2;
        act(x, 7, 1, 5, owes, 80, 10, 20, 1, 50, 11, 20, 1);
        act(x, 7, 3, 5, owes - lacks1 - 1, 81, 2, 80, 10, 20, 1, 50, 11, 20, 1, 50, 11, 20, 1);
        act(x, 1, 1, Integer.MAX_VALUE, (Integer.MAX_VALUE + 4) * 2, 10, 20, 1);
    }

    private static void act(LeastPays x, int body, int act, int v, int want, int... bodies) {
        String call = "P32 act(" + body + ", " + act + ", " + v + ")";
        DUE.is(call, x.act(body, act, v), want);
        ran(x, call, bodies);
    }

    private static void trace() {
        LeastPays x = new LeastPays();
        ran(x, "P33 none");
        x.body(0);
        x.act(0, 3, 1);
        DUE.is("P32 no such hat", x.act(1, 3, 1), 0);
        ran(x, "P33 no such hat");
        x.act(0, 3, 1);
        DUE.is("P32 hat -1", x.act(-1, 3, 1), 0);
        ran(x, "P33 hat -1");
        x.act(0, 3, 1);
        DUE.is("P32 act 4", x.act(0, 4, 1), 0);
        ran(x, "P33 act 4");
        x.act(0, 3, 1);
        DUE.is("P32 act -1", x.act(0, -1, 1), 0);
        ran(x, "P33 act -1");
        x.act(0, 3, 1);
        x.act(0, 0, 1);
        ran(x, "P33 only the latest", 1);
    }

    private static void keep() {
        LeastPays x = new LeastPays();
        DUE.is("P34 no body", x.keep(0, 0), LeastPays.BAD);
        x.body(3);
        DUE.is("P34 shelf 6", x.keep(6, 0), LeastPays.BAD);
        DUE.is("P34 shelf -1", x.keep(-1, -1), LeastPays.BAD);
        DUE.is("P34 body -2", x.keep(0, -2), LeastPays.BAD);
        DUE.is("P34 a hat", x.keep(5, 0), 1);
        DUE.is("P34 it is there", x.taken(5, 0), 3);
        DUE.is("P34 nothing", x.keep(5, -1), 1);
        DUE.is("P34 nothing is there", x.taken(5, 0), -11);
        x.row(5, 0, 4);
        DUE.is("P34 in place of a row", x.keep(5, 0), 1);
        DUE.is("P34 no row", x.put(5, 0, 1), -12);
    }

    private static void row() {
        LeastPays x = new LeastPays();
        DUE.is("P35 shelf 6", x.row(6, 0, 1), LeastPays.BAD);
        DUE.is("P35 sort 5", x.row(0, 5, 1), LeastPays.BAD);
        DUE.is("P35 sort -1", x.row(0, -1, 1), LeastPays.BAD);
        DUE.is("P35 61", x.row(0, 0, 61), LeastPays.BAD);
        DUE.is("P35 -1", x.row(0, 0, -1), -14);
        DUE.is("P35 BAD ahead of -14", x.row(0, 5, -1), LeastPays.BAD);
        DUE.is("P35 nothing came", x.put(0, 0, 1), -11);
        DUE.is("P35 60", x.row(0, 3, 60), 1);
        DUE.is("P35 0 at first", x.element(0, 59), 0);
        x.put(0, 3, 9);
        DUE.is("P35 none", x.row(0, 3, 0), 1);
        DUE.is("P35 no place", x.put(0, 0, 1), -13);
        x.row(0, 3, 60);
        DUE.is("P35 0 again", x.element(0, 3), 0);
    }

    private static void putAndElement() {
        LeastPays x = new LeastPays();
        DUE.is("P36 shelf 6", x.put(6, 0, 1), LeastPays.BAD);
        DUE.is("P36 nothing", x.put(0, 0, 1), -11);
        DUE.is("P37 shelf -1", x.element(-1, 0), Due.NO_NUMBER);
        DUE.is("P37 nothing", x.element(0, 0), Due.NO_NUMBER);
        x.body(0);
        x.keep(0, 0);
        DUE.is("P36 hat", x.put(0, 99, 1), -12);
        DUE.is("P37 hat", x.element(0, 0), Due.NO_NUMBER);
        long v = 0x123456789ABCDEF0L;
        long[] kept = {(byte) v, (short) v, (int) v, v, 1};
        for (int sort = 0; sort <= 4; sort++) {
            x.row(sort, sort, 3);
            DUE.is("P36 put", x.put(sort, 2, v), 1);
            DUE.is("P37 lowest bits of sort " + sort, x.element(sort, 2), kept[sort]);
            DUE.is("P37 others stay", x.element(sort, 1), 0);
            DUE.is("P36 behind", x.put(sort, 3, v), -13);
            DUE.is("P36 ahead", x.put(sort, -1, v), -13);
            DUE.is("P37 behind", x.element(sort, 3), Due.NO_NUMBER);
            DUE.is("P37 ahead", x.element(sort, -1), Due.NO_NUMBER);
        }
        x.put(0, 0, 255);
        DUE.is("P37 a byte", x.element(0, 0), -1);
        x.put(4, 2, 256);
        DUE.is("P37 a boolean", x.element(4, 2), 1);
        x.put(4, 2, 0);
        DUE.is("P37 a boolean", x.element(4, 2), 0);
        x.put(4, 2, 1L << 40);
        DUE.is("P37 a boolean by high bits", x.element(4, 2), 1);
    }

    private static void shift() {
        LeastPays x = new LeastPays();
        x.row(0, 1, 6);
        for (int i = 0; i < 6; i++) {
            x.put(0, i, i + 1);
        }
        DUE.is("P38 shelf 6", x.shift(6, 0, 0, 0, 1), LeastPays.BAD);
        DUE.is("P38 other -1", x.shift(0, 0, -1, 0, 1), LeastPays.BAD);
        DUE.is("P38 nothing there", x.shift(0, 0, 1, 0, 1), -11);
        DUE.is("P38 nothing here", x.shift(1, 0, 0, 0, 1), -11);
        x.body(0);
        x.keep(2, 0);
        DUE.is("P38 -11 ahead of -12", x.shift(2, 0, 1, 0, 1), -11);
        DUE.is("P38 a hat", x.shift(2, 0, 0, 0, 1), -12);
        DUE.is("P38 to a hat", x.shift(0, 0, 2, 0, 1), -12);
        DUE.is("P38 two hats", x.shift(2, 0, 2, 0, 1), -12);
        x.row(1, 2, 6);
        DUE.is("P38 unlike sorts", x.shift(0, 9, 1, 0, 1), -12);
        x.row(1, 1, 4);
        int[][] bad = {{-1, 0, 1}, {0, -1, 1}, {0, 0, -1}, {6, 0, 1}, {0, 4, 1}, {0, 0, 5}, {2, 0, 5},
            {7, 0, 0}, {0, 5, 0}, {1, 0, Integer.MAX_VALUE}, {Integer.MAX_VALUE, 0, 1}};
        for (int[] b : bad) {
            DUE.is("P38 shift " + b[0] + " " + b[1] + " " + b[2], x.shift(0, b[0], 1, b[1], b[2]), -13);
        }
        DUE.is("P38 none at the end", x.shift(0, 6, 1, 4, 0), 0);
        DUE.is("P38 three", x.shift(0, 2, 1, 1, 3), 3);
        rowIs(x, 1, 0, 3, 4, 5);
        DUE.is("P38 the same row, on", x.shift(0, 0, 0, 1, 5), 5);
        rowIs(x, 0, 1, 1, 2, 3, 4, 5);
        DUE.is("P38 the same row, back", x.shift(0, 2, 0, 0, 4), 4);
        rowIs(x, 0, 2, 3, 4, 5, 4, 5);
    }

    private static void rowIs(LeastPays x, int shelf, int... want) {
        for (int i = 0; i < want.length; i++) {
            DUE.is("P38 element " + i, x.element(shelf, i), want[i]);
        }
    }

    private static void taken() {
        LeastPays x = new LeastPays();
        int[] above = {-1, 0, 0, 2, 1, 3, 0, 4};
        for (int kind = 0; kind < 8; kind++) {
            x.body(kind);
            x.keep(0, kind);
            for (int k = 0; k < 8; k++) {
                boolean under = false;
                for (int up = kind; up >= 0; up = above[up]) {
                    under |= up == k;
                }
                DUE.is("P39 " + kind + " for " + k, x.taken(0, k), under ? kind : -12);
            }
        }
        DUE.is("P39 k 8", x.taken(0, 8), LeastPays.BAD);
        DUE.is("P39 k -1", x.taken(0, -1), LeastPays.BAD);
        DUE.is("P39 shelf 6", x.taken(6, 0), LeastPays.BAD);
        DUE.is("P39 nothing", x.taken(1, 0), -11);
        x.row(1, 0, 1);
        DUE.is("P39 a row", x.taken(1, 0), -12);
    }

    private static void count() {
        LeastPays x = new LeastPays();
        DUE.is("P40 -1", x.count(-1), LeastPays.BAD);
        DUE.is("P40 6", x.count(6), LeastPays.BAD);
        x.guest(9);
        x.guest(9);
        x.dish(4);
        x.feed(98);
        x.feed(98);
        x.feed(98);
        x.mend(0, 1, 4);
        x.body(7);
        x.act(0, 3, 2);
        int[] want = {2, 1, 3, 1, 1, 14};
        for (int what = 0; what <= 5; what++) {
            DUE.is("P40 count(" + what + ")", x.count(what), want[what]);
        }
    }
}
