/** Terms 5: each act of each kind, which bodies run, and whose number counts; what shelves hold. */
public final class EdgesOfActsTest {
    private static final Due DUE = new Due();
    private static final String[] KINDS = {"HAT", "FULL", "LEAN", "TORN", "TALL", "EMPTY", "ROUND", "OLD"};
    /** By acts gives, owes, lacks, tells: the bodies in the order in which they begin. */
    private static final int[][][] RUN = {
        {{1}, {10, 1}, {11}, {2, 10, 1, 11}},
        {{20, 1}, {10, 20, 1}, {11}, {2, 10, 20, 1, 11}},
        {{1}, {30, 10, 1}, {11}, {2, 30, 10, 1, 11}},
        {{1}, {41, 30, 10, 1}, {40, 11}, {2, 41, 30, 10, 1, 40, 11}},
        {{20, 1}, {10, 20, 1}, {50, 11, 20, 1}, {2, 10, 20, 1, 50, 11, 20, 1}},
        {{1}, {41, 30, 10, 1}, {40, 11}, {60, 2, 41, 30, 10, 1, 40, 11}},
        {{70, 1}, {10, 70, 1}, {11}, {2, 10, 70, 1, 11}},
        {{20, 1}, {80, 10, 20, 1, 50, 11, 20, 1}, {50, 11, 20, 1},
            {81, 2, 80, 10, 20, 1, 50, 11, 20, 1, 50, 11, 20, 1}}};

    public static void main(String[] args) {
        eachActOfEachKind();
        theLatestAct();
        noSuchHatOrAct();
        whatAShelfHolds();
        takenForAKind();
        rowsTakeTheirPlace();
        hatsTakeTheirPlace();
        DUE.end();
    }

    private static int gives(int kind, int n, int x) {
        int least = x + n;
        return kind == 6 ? least * 2 : kind == 1 || kind == 4 || kind == 7 ? least + 3 : least;
    }

    private static int lacks(int kind, int n, int x) {
        int least = x ^ n;
        if (kind == 3 || kind == 5) {
            return least * 3;
        }
        return kind == 4 || kind == 7 ? least - gives(kind, n, 2) : least;
    }

    private static int owes(int kind, int n, int x) {
        switch (kind) {
            case 2:
                return -(gives(kind, n, x) * 2);
            case 3:
            case 5:
                return -(gives(kind, n, x + 1) * 2);
            case 7:
                return gives(kind, n, x) * 2 + lacks(kind, n, 2);
            default:
                return gives(kind, n, x) * 2;
        }
    }

    private static int tells(int kind, int n, int x) {
        int told = owes(kind, n, x) - lacks(kind, n, 1);
        return kind == 5 ? told ^ 5 : kind == 7 ? told - 1 : told;
    }

    private static void eachActOfEachKind() {
        for (int kind = 0; kind <= 7; kind++) {
            LeastPays x = new LeastPays();
            int[] numbers = {0, 1, 49};
            for (int i = 0; i < 50; i++) {
                x.body(i == 0 || i == 1 || i == 49 ? kind : 7 - kind);
            }
            for (int n : numbers) {
                for (int v = -2; v <= 6; v += 4) {
                    int[] want = {gives(kind, n, v), owes(kind, n, v), lacks(kind, n, v), tells(kind, n, v)};
                    for (int act = 0; act <= 3; act++) {
                        String call = "P32 " + KINDS[kind] + " " + n + ", ACT " + act + " with " + v;
                        DUE.is(call, x.act(n, act, v), want[act]);
                    }
                }
            }
            for (int act = 0; act <= 3; act++) {
                x.act(1, act, 5);
                ran(x, "P33 " + KINDS[kind] + ", ACT " + act, RUN[kind][act]);
            }
        }
    }

    private static void ran(LeastPays x, String what, int... bodies) {
        DUE.is(what + ": how many ran", x.count(5), bodies.length);
        for (int i = 0; i < bodies.length; i++) {
            DUE.is(what + ": the " + i + "th", x.trace(i), bodies[i]);
        }
        int[] behind = {-1, bodies.length, 23, 24, 25};
        for (int i : behind) {
            DUE.is(what + ": none at " + i, x.trace(i), LeastPays.BAD);
        }
    }

    private static void theLatestAct() {
        LeastPays x = new LeastPays();
        x.body(7);
        x.body(0);
        ran(x, "P33 no ACT yet");
        x.act(0, 3, 0);
        x.act(1, 2, 0);
        ran(x, "P33 the latest alone", 11);
        x.act(0, 2, 0);
        ran(x, "P33 the latest alone", 50, 11, 20, 1);
        x.body(3);
        x.keep(0, 1);
        x.taken(0, 0);
        x.trace(0);
        ran(x, "P33 other calls are no ACTS", 50, 11, 20, 1);
    }

    private static void noSuchHatOrAct() {
        LeastPays x = new LeastPays();
        x.body(7);
        int[][] none = {{1, 0}, {-1, 0}, {0, 4}, {0, -1}, {50, 3}, {7, 9}, {Integer.MIN_VALUE, 0}, {0, Integer.MAX_VALUE}};
        for (int[] n : none) {
            x.act(0, 3, 9);
            DUE.is("P32 act(" + n[0] + ", " + n[1] + ")", x.act(n[0], n[1], 9), 0);
            ran(x, "P32 no TRACE then");
        }
    }

    private static void whatAShelfHolds() {
        LeastPays x = new LeastPays();
        x.body(1);
        x.body(5);
        for (int shelf = 0; shelf <= 5; shelf++) {
            DUE.is("P34 a HAT on shelf " + shelf, x.keep(shelf, shelf % 2), 1);
        }
        for (int shelf = 0; shelf <= 5; shelf++) {
            DUE.is("P39 each holds its own", x.taken(shelf, 0), shelf % 2 == 0 ? 1 : 5);
        }
        DUE.is("P34 another in its place", x.keep(0, 1), 1);
        DUE.is("P39 another in its place", x.taken(0, 0), 5);
        DUE.is("P34 nothing", x.keep(0, -1), 1);
        DUE.is("P39 nothing", x.taken(0, 0), -11);
        DUE.is("P34 no such BODY", x.keep(1, 2), LeastPays.BAD);
        DUE.is("P39 it holds what it held", x.taken(1, 0), 5);
        DUE.is("P40 BODIES stay", x.count(4), 2);
    }

    /** By kinds: itself and those above it. */
    private static void takenForAKind() {
        int[][] above = {{0}, {0, 1}, {0, 2}, {0, 2, 3}, {0, 1, 4}, {0, 2, 3, 5}, {0, 6}, {0, 1, 4, 7}};
        LeastPays x = new LeastPays();
        for (int kind = 0; kind <= 7; kind++) {
            x.body(kind);
            x.keep(3, kind);
            int next = 0;
            for (int k = 0; k <= 7; k++) {
                boolean under = next < above[kind].length && above[kind][next] == k;
                next += under ? 1 : 0;
                DUE.is("P39 " + KINDS[kind] + " for " + KINDS[k], x.taken(3, k), under ? kind : -12);
            }
        }
    }

    private static void rowsTakeTheirPlace() {
        LeastPays x = new LeastPays();
        x.body(0);
        x.keep(2, 0);
        DUE.is("P36 a HAT is no ROW", x.put(2, 0, 5), -12);
        DUE.is("P37 a HAT is no ROW", x.element(2, 0), Due.NO_NUMBER);
        DUE.is("P35 a ROW in place of a HAT", x.row(2, 3, 2), 1);
        DUE.is("P39 no HAT", x.taken(2, 0), -12);
        DUE.is("P36 a ROW", x.put(2, 1, 5), 1);
        DUE.is("P35 another, longer", x.row(2, 3, 3), 1);
        DUE.is("P37 0 at first", x.element(2, 1), 0);
        DUE.is("P36 longer", x.put(2, 2, 7), 1);
        DUE.is("P35 shorter", x.row(2, 0, 1), 1);
        DUE.is("P37 shorter", x.element(2, 1), Due.NO_NUMBER);
        DUE.is("P36 of bytes now", x.put(2, 0, 300), 1);
        DUE.is("P37 of bytes now", x.element(2, 0), 44);
        DUE.is("P35 refused", x.row(2, 0, 61), LeastPays.BAD);
        DUE.is("P35 refused", x.row(2, 0, -1), -14);
        DUE.is("P37 it holds what it held", x.element(2, 0), 44);
    }

    private static void hatsTakeTheirPlace() {
        LeastPays x = new LeastPays();
        x.body(6);
        x.row(2, 0, 4);
        x.put(2, 0, 9);
        x.keep(2, 0);
        DUE.is("P39 a HAT in place of a ROW", x.taken(2, 6), 6);
        DUE.is("P36 no ROW", x.put(2, 0, 1), -12);
        DUE.is("P38 no ROW", x.shift(2, 0, 2, 0, 1), -12);
        x.keep(2, -1);
        DUE.is("P36 nothing", x.put(2, 0, 1), -11);
        DUE.is("P38 nothing", x.shift(2, 0, 2, 0, 1), -11);
    }
}
