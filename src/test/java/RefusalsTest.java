import java.util.ArrayList;
import java.util.List;
import java.util.function.Supplier;
import java.util.function.ToLongFunction;

/** What is refused changes nothing, nor does what is only asked; and of several refusals which is told. */
public final class RefusalsTest {
    private static final Due DUE = new Due();
    private static final int BAD = LeastPays.BAD, NOT = LeastPays.NOT, FULL = LeastPays.FULL;
    private static final int STATE = LeastPays.STATE, VOID = LeastPays.VOID;
    private static final long NONE = Due.NO_NUMBER;

    private static Supplier<LeastPays> made;
    private static List<List<Long>> untouched;

    public static void main(String[] args) {
        changeNothing(RefusalsTest::crowded);
        refusedWhenFull();
        refusedGuests();
        refusedAsked();
        refusedShelves();
        onlyAsked();
        changeNothing(LeastPays::new);
        refusedWhenNobodyIsThere();
        ofSeveralWhenFull();
        ofSeveralWhenEmpty();
        ofSeveralOfRows();
        ofSeveralOfShifts();
        DUE.end();
    }

    // ---- an object with something in every place, and all that can be told of it

    /** Six guests, three dishes, fifty bodies, a full tape, a law, an image, changes to undo and to do again. */
    private static LeastPays crowded() {
        LeastPays x = new LeastPays();
        for (int i = 0; i < 6; i++) {
            x.guest(40 + i);
            x.mend(i, 1, 12 + 5 * i);
            x.mend(i, 2, i + 1);
            x.mend(i, 3, 30 - i);
        }
        x.mend(0, 4, 300);
        x.mend(0, 5, 2);
        x.mend(0, 6, 7);
        x.think(1, 70);
        x.night();
        x.image();
        x.night();
        for (int i = 0; i < 3; i++) {
            x.dish(20 + 10 * i);
            x.joy(10 * i + i, 60);
        }
        Due.enact(x, "b/k+n");
        String onTheTape = "0+".repeat(59) + "33";
        for (int i = 0; i < 120; i++) {
            x.feed(onTheTape.charAt(i));
        }
        for (int i = 0; i < 50; i++) {
            x.body(7 - i % 8);
        }
        for (int sort = 0; sort < 4; sort++) {
            x.row(sort, sort, 6);
            x.put(sort, 1, 9);
            x.put(sort, 5, -7);
        }
        x.keep(5, 0);
        x.act(0, 3, 4);
        x.undo();
        x.undo();
        return x;
    }

    private static List<Long> asked(LeastPays x) {
        List<Long> told = new ArrayList<>();
        for (int what = 0; what <= 5; what++) {
            told.add((long) x.count(what));
        }
        for (int what = 0; what <= 17; what++) {
            for (int guest = 0; guest <= 5; guest++) {
                told.add((long) x.of(guest, what));
            }
        }
        for (int i = 0; i < 16; i++) {
            told.add((long) x.trace(i));
        }
        for (int shelf = 0; shelf <= 5; shelf++) {
            told.add((long) x.taken(shelf, 0));
            told.add((long) x.put(shelf, 0, 1));
            for (int i = 0; i < 7; i++) {
                told.add(x.element(shelf, i));
            }
        }
        return told;
    }

    private static List<Long> dined(LeastPays x) {
        List<Long> told = new ArrayList<>();
        for (int guest = 0; guest <= 5; guest++) {
            told.add((long) x.given(guest));
            for (int dish = 0; dish <= 2; dish++) {
                told.add((long) x.joy(10 * guest + dish, 50));
            }
        }
        told.add((long) x.ordered(0, 2));
        told.add((long) x.law());
        told.add((long) x.given(-1));
        for (int guest = 0; guest <= 5; guest++) {
            told.add((long) x.given(guest));
        }
        for (int i = 0; i < 52; i++) {
            told.add((long) x.act(i, 0, 100));
        }
        told.add((long) x.dish(7));
        told.add((long) x.body(2));
        return told;
    }

    private static List<Long> doneAgain(LeastPays x) {
        List<Long> told = new ArrayList<>();
        for (int i = 0; i < 4; i++) {
            told.add((long) x.redo());
            told.add((long) x.of(0, 11));
            told.add((long) x.of(0, 12));
        }
        for (int i = 0; i < 41; i++) {
            told.add((long) x.undo());
            for (int what = 0; what <= 3; what++) {
                told.add((long) x.of(Math.max(0, 5 - i / 3), what));
            }
        }
        return told;
    }

    private static List<Long> laidBack(LeastPays x) {
        List<Long> told = new ArrayList<>();
        told.add((long) x.back());
        for (int guest = 0; guest <= 5; guest++) {
            told.add((long) x.of(guest, 1));
            told.add((long) x.of(guest, 5));
        }
        told.add((long) x.of(0, 16));
        told.add((long) x.of(0, 17));
        for (int i = 0; i < 7; i++) {
            told.add((long) x.guest(10 * i));
        }
        told.add((long) x.night());
        return told;
    }

    private static List<List<Long>> portrait(Supplier<LeastPays> painted) {
        return List.of(asked(painted.get()), dined(painted.get()), doneAgain(painted.get()), laidBack(painted.get()));
    }

    private static void changeNothing(Supplier<LeastPays> supplier) {
        made = supplier;
        untouched = portrait(made);
    }

    private static LeastPays after(ToLongFunction<LeastPays> call) {
        LeastPays x = made.get();
        call.applyAsLong(x);
        return x;
    }

    private static void nothingChanges(String what, ToLongFunction<LeastPays> call) {
        DUE.holds(what + " changes nothing", portrait(() -> after(call)).equals(untouched));
    }

    private static void refused(String what, long due, ToLongFunction<LeastPays> call) {
        DUE.is(what, call.applyAsLong(made.get()), due);
        nothingChanges(what, call);
    }

    // ---- refused, and nothing changed

    private static void refusedWhenFull() {
        refused("P2 guest FULL", FULL, x -> x.guest(5));
        refused("P3 guests FULL", 0, x -> x.guests(0, 0, 6));
        refused("P7 feed FULL", FULL, x -> x.feed('7'));
        refused("P16 dish FULL", FULL, x -> x.dish(5));
        refused("P31 body FULL", FULL, x -> x.body(5));
        refused("P2 guest(-1)", BAD, x -> x.guest(-1));
        refused("P2 guest(100)", BAD, x -> x.guest(100));
        refused("P7 feed(-1)", BAD, x -> x.feed(-1));
        refused("P7 feed(256)", BAD, x -> x.feed(256));
        refused("P16 dish(-1)", BAD, x -> x.dish(-1));
        refused("P16 dish(100)", BAD, x -> x.dish(100));
        refused("P31 body(-1)", BAD, x -> x.body(-1));
        refused("P31 body(8)", BAD, x -> x.body(8));
    }

    private static void refusedGuests() {
        int[][] mended = {{6, 0, 1}, {-1, 0, 1}, {0, -1, 1}, {0, 7, 1}, {1, 4, 1}, {-1, 6, 1}, {0, 0, -1}, {0, 0, 100},
            {0, 1, -1}, {0, 1, 41}, {0, 2, -1}, {0, 2, 13}, {0, 3, -1}, {0, 3, 41}, {0, 4, -1}, {0, 4, 600},
            {0, 5, -1}, {0, 5, 5}, {0, 6, 0}, {0, 6, 100}};
        for (int[] m : mended) {
            refused("P4 mend(" + m[0] + ", " + m[1] + ", " + m[2] + ")", BAD, x -> x.mend(m[0], m[1], m[2]));
        }
        refused("P3 guests(-1, 0, 1)", BAD, x -> x.guests(-1, 0, 1));
        refused("P3 guests(0, 0, 0)", BAD, x -> x.guests(0, 0, 0));
        refused("P3 guests(0, 0, 7)", BAD, x -> x.guests(0, 0, 7));
        refused("P3 guests of shorts", -12, x -> x.guests(1, 0, 1));
        refused("P3 guests of a HAT", -12, x -> x.guests(5, 0, 1));
        refused("P3 guests of nothing", 0, x -> x.guests(4, 0, 1));
        refused("P6 think(6, 1)", VOID, x -> x.think(6, 1));
        refused("P6 think(1, -2)", VOID, x -> x.think(1, -2));
        refused("P6 think(1, 600)", VOID, x -> x.think(1, 600));
        refused("P17 joy(60, 1)", BAD, x -> x.joy(60, 1));
        refused("P17 joy(3, 1)", BAD, x -> x.joy(3, 1));
        refused("P17 joy(11, -1)", BAD, x -> x.joy(11, -1));
        refused("P17 joy(11, 100)", BAD, x -> x.joy(11, 100));
    }

    private static void refusedAsked() {
        refused("P5 of(6, 0)", VOID, x -> x.of(6, 0));
        refused("P9 putIn(6, 0)", VOID, x -> x.putIn(6, 0));
        refused("P10 mean(0, 41, 0)", NONE, x -> x.mean(0, 41, 0));
        refused("P11 bestMean(6)", BAD, x -> x.bestMean(6));
        refused("P12 rest(2)", BAD, x -> x.rest(2));
        refused("P13 rests(-1)", STATE, x -> x.rests(-1));
        refused("P13 rests(6)", BAD, x -> x.rests(6));
        refused("P14 turns(6)", BAD, x -> x.turns(6));
        refused("P15 agree(10, 0)", VOID, x -> x.agree(10, 0));
        refused("P15 agree(1, 4)", VOID, x -> x.agree(1, 4));
        refused("P18 ordered(1, 2)", VOID, x -> x.ordered(1, 2));
        refused("P19 thought(0, 100, 0)", BAD, x -> x.thought(0, 100, 0));
        refused("P19 thought(0, 99, 0)", NOT, x -> x.thought(0, 99, 0));
        refused("P20 given(6)", BAD, x -> x.given(6));
        refused("P21 stranger(0, 1300, 0)", NONE, x -> x.stranger(0, 1300, 0));
        refused("P23 drawn(1, 51, 0, 0)", VOID, x -> x.drawn(1, 51, 0, 0));
        refused("P24 judge(6)", BAD, x -> x.judge(6));
        refused("P24 judge(4)", -11, x -> x.judge(4));
        refused("P24 judge(0)", -12, x -> x.judge(0));
        refused("P25 fits(6)", BAD, x -> x.fits(6));
        refused("P25 fits(4)", -11, x -> x.fits(4));
        refused("P25 fits(0)", -12, x -> x.fits(0));
        refused("P26 fair(2)", VOID, x -> x.fair(2));
        refused("P33 trace(24)", BAD, x -> x.trace(24));
        refused("P40 count(6)", BAD, x -> x.count(6));
    }

    private static void refusedShelves() {
        refused("P34 keep(6, 0)", BAD, x -> x.keep(6, 0));
        refused("P34 keep(0, 50)", BAD, x -> x.keep(0, 50));
        refused("P34 keep(0, -2)", BAD, x -> x.keep(0, -2));
        refused("P35 row(6, 0, 1)", BAD, x -> x.row(6, 0, 1));
        refused("P35 row(0, 5, 1)", BAD, x -> x.row(0, 5, 1));
        refused("P35 row(0, 0, 61)", BAD, x -> x.row(0, 0, 61));
        refused("P35 row(0, 0, -1)", -14, x -> x.row(0, 0, -1));
        refused("P36 put(6, 0, 1)", BAD, x -> x.put(6, 0, 1));
        refused("P36 put(4, 0, 1)", -11, x -> x.put(4, 0, 1));
        refused("P36 put(5, 0, 1)", -12, x -> x.put(5, 0, 1));
        refused("P36 put(0, 6, 1)", -13, x -> x.put(0, 6, 1));
        refused("P36 put(0, -1, 1)", -13, x -> x.put(0, -1, 1));
        refused("P37 element(0, 6)", NONE, x -> x.element(0, 6));
        refused("P38 shift to shelf 6", BAD, x -> x.shift(0, 0, 6, 0, 1));
        refused("P38 shift to nothing", -11, x -> x.shift(0, 0, 4, 0, 1));
        refused("P38 shift to a HAT", -12, x -> x.shift(0, 0, 5, 0, 1));
        refused("P38 shift to another sort", -12, x -> x.shift(0, 0, 1, 0, 1));
        refused("P38 shift from -1", -13, x -> x.shift(0, -1, 0, 0, 1));
        refused("P38 shift two from the last", -13, x -> x.shift(0, 5, 0, 0, 2));
        refused("P38 shift two to the last", -13, x -> x.shift(0, 0, 0, 5, 2));
        refused("P38 shift -1 of them", -13, x -> x.shift(0, 1, 0, 0, -1));
        refused("P38 shift none", 0, x -> x.shift(0, 1, 0, 0, 0));
        refused("P39 taken(6, 0)", BAD, x -> x.taken(6, 0));
        refused("P39 taken(4, 0)", -11, x -> x.taken(4, 0));
        refused("P39 taken(0, 0)", -12, x -> x.taken(0, 0));
        refused("P39 taken(5, 2)", -12, x -> x.taken(5, 2));
    }

    /** Hats looked at, nights by draws and what one would do are in thought alone. */
    private static void onlyAsked() {
        nothingChanges("P5 of", x -> x.of(0, 4));
        nothingChanges("P9 putIn", x -> x.putIn(2, 0));
        nothingChanges("P10 mean", x -> x.mean(3, 3, 0));
        nothingChanges("P11 bestMean", x -> x.bestMean(3));
        nothingChanges("P12 rest", x -> x.rest(1));
        nothingChanges("P14 turns", x -> x.turns(-1));
        nothingChanges("P15 agree", x -> x.agree(23, 3));
        nothingChanges("P18 ordered", x -> x.ordered(0, 2));
        nothingChanges("P19 thought", x -> x.thought(1, 20, 1));
        nothingChanges("P20 given", x -> x.given(-1));
        nothingChanges("P21 stranger", x -> x.stranger(0, 605, 0));
        nothingChanges("P23 drawn", x -> x.drawn(9, 50, 2, 1));
        nothingChanges("P24 judge", x -> x.judge(1));
        nothingChanges("P25 fits", x -> x.fits(1));
        nothingChanges("P26 fair", x -> x.fair(0));
        nothingChanges("P33 trace", x -> x.trace(3));
        nothingChanges("P37 element", x -> x.element(0, 1));
        nothingChanges("P39 taken", x -> x.taken(5, 7));
        nothingChanges("P40 count", x -> x.count(3));
        nothingChanges("P4 mend, the same number", x -> x.mend(0, 4, 300));
        nothingChanges("P6 think, the same number", x -> x.think(1, 70));
    }

    private static void refusedWhenNobodyIsThere() {
        refused("P22 night", STATE, LeastPays::night);
        refused("P26 fair", STATE, x -> x.fair(0));
        refused("P28 back", STATE, LeastPays::back);
        refused("P29 undo", STATE, LeastPays::undo);
        refused("P30 redo", STATE, LeastPays::redo);
        refused("P8 law of an empty tape", -100, LeastPays::law);
        refused("P17 joy", BAD, x -> x.joy(0, 1));
        refused("P32 act", 0, x -> x.act(0, 0, 1));
        refused("P34 keep", BAD, x -> x.keep(0, 0));
        refused("P34 keep nothing", 1, x -> x.keep(0, -1));
        refused("P38 shift", -11, x -> x.shift(0, 0, 1, 0, 0));
    }

    // ---- of several the one named first

    private static void ofSeveralWhenFull() {
        DUE.is("P2 BAD ahead of FULL", crowded().guest(100), BAD);
        DUE.is("P2 BAD ahead of FULL", crowded().guest(-1), BAD);
        DUE.is("P7 BAD ahead of FULL", crowded().feed(256), BAD);
        DUE.is("P7 BAD ahead of FULL", crowded().feed(-1), BAD);
        DUE.is("P16 BAD ahead of FULL", crowded().dish(100), BAD);
        DUE.is("P16 BAD ahead of FULL", crowded().dish(-1), BAD);
        DUE.is("P31 BAD ahead of FULL", crowded().body(8), BAD);
        DUE.is("P31 BAD ahead of FULL", crowded().body(-1), BAD);
        DUE.is("P3 BAD (n) ahead of -12", crowded().guests(1, 0, 0), BAD);
        DUE.is("P3 BAD (n) ahead of -12", crowded().guests(5, 0, 7), BAD);
        DUE.is("P3 -12, though GUESTS are FULL", crowded().guests(1, 0, 1), -12);
        DUE.is("P3 -12, though from no place", crowded().guests(1, -1, 1), -12);
        DUE.is("P13 BAD ahead of STATE", crowded().rests(6), BAD);
        DUE.is("P13 BAD ahead of STATE", crowded().rests(-2), BAD);
        DUE.is("P19 BAD (v) ahead of NOT", crowded().thought(0, 100, 0), BAD);
        DUE.is("P19 BAD (what) ahead of NOT", crowded().thought(0, 99, 2), BAD);
    }

    private static void ofSeveralWhenEmpty() {
        DUE.is("P26 VOID ahead of STATE", new LeastPays().fair(2), VOID);
        DUE.is("P26 VOID ahead of STATE", new LeastPays().fair(-1), VOID);
        DUE.is("P3 BAD (n), though the row is missing", new LeastPays().guests(0, 0, 7), BAD);
        DUE.is("P39 BAD (k) ahead of -11", new LeastPays().taken(0, 8), BAD);
        DUE.is("P39 BAD (k) ahead of -11", new LeastPays().taken(0, -1), BAD);
        DUE.is("P36 -11 ahead of -13", new LeastPays().put(0, -1, 1), -11);
        DUE.is("P36 BAD ahead of -11", new LeastPays().put(6, 0, 1), BAD);
        DUE.is("P24 BAD ahead of -11", new LeastPays().judge(6), BAD);
        DUE.is("P25 BAD ahead of -11", new LeastPays().fits(-1), BAD);
    }

    private static void ofSeveralOfRows() {
        DUE.is("P35 BAD (shelf) ahead of -14", new LeastPays().row(6, 0, -1), BAD);
        DUE.is("P35 BAD (sort) ahead of -14", new LeastPays().row(0, 5, -1), BAD);
        DUE.is("P35 BAD (sort) ahead of -14", new LeastPays().row(0, -1, -1), BAD);
        DUE.is("P36 -12 ahead of -13", crowded().put(5, -1, 1), -12);
        DUE.is("P36 BAD ahead of -13", crowded().put(-1, -1, 1), BAD);
        DUE.is("P39 BAD (k) ahead of -12", crowded().taken(0, 8), BAD);
        DUE.is("P39 BAD (shelf) ahead of all", crowded().taken(6, 8), BAD);
    }

    private static void ofSeveralOfShifts() {
        DUE.is("P38 BAD ahead of -11", crowded().shift(4, 0, 6, 0, 1), BAD);
        DUE.is("P38 BAD ahead of -11", crowded().shift(-1, 0, 4, 0, 1), BAD);
        DUE.is("P38 BAD ahead of -12", crowded().shift(5, 0, 6, 0, 1), BAD);
        DUE.is("P38 BAD ahead of -13", crowded().shift(0, -1, 6, 0, 1), BAD);
        DUE.is("P38 -11 (the other) ahead of -12", crowded().shift(5, 0, 4, 0, 1), -11);
        DUE.is("P38 -11 (the one) ahead of -12", crowded().shift(4, 0, 5, 0, 1), -11);
        DUE.is("P38 -11 ahead of -13", crowded().shift(0, -1, 4, -1, -1), -11);
        DUE.is("P38 -11, none at all", crowded().shift(4, 0, 4, 0, 0), -11);
        DUE.is("P38 -12 (a HAT) ahead of -13", crowded().shift(5, -1, 0, 9, -1), -12);
        DUE.is("P38 -12 (two HATS) ahead of -13", crowded().shift(5, -1, 5, 9, -1), -12);
        DUE.is("P38 -12 (unlike sorts) ahead of -13", crowded().shift(0, -1, 1, 9, -1), -12);
        DUE.is("P38 -12 (unlike sorts), none at all", crowded().shift(2, 0, 3, 0, 0), -12);
    }
}
