/** Nobody there, nothing there yet, and what holds no more: guests, dishes, the tape, bodies, changes. */
public final class EmptyAndFullTest {
    private static final Due DUE = new Due();

    public static void main(String[] args) {
        nobodyCounts();
        nobodyOfTheTable();
        nobodyAsked();
        nobodyIsAtRest();
        nobodyInTheNight();
        nothingYet();
        fullGuests();
        fullDishes();
        fullTape();
        fullBodies();
        fullChanges();
        DUE.end();
    }

    private static void nobodyCounts() {
        String[] names = {"GUESTS", "DISHES", "bytes", "changes", "BODIES", "bodies that ran"};
        for (int what = 0; what < names.length; what++) {
            DUE.is("P1 Nobody: " + names[what], new LeastPays().count(what), 0);
        }
    }

    private static void nobodyOfTheTable() {
        String[] names = {"BILL", "RULE", "STEP", "THE HAT", "LACK", "OVER", "THE CHEST", "NIGHTS"};
        int[] atFirst = {60, 0, 10, 0, 60, 0, 0, 0};
        for (int i = 0; i < names.length; i++) {
            DUE.is("P1 " + names[i] + " at first", new LeastPays().of(0, 10 + i), atFirst[i]);
        }
        LeastPays x = new LeastPays();
        DUE.is("P4 BILL without guests", x.mend(0, 4, 0), 60);
        DUE.is("P4 RULE without guests", x.mend(0, 5, 4), 0);
        DUE.is("P4 STEP without guests", x.mend(0, 6, 99), 10);
        DUE.is("P5 LACK is 0 at least", x.of(0, 14), 0);
        DUE.is("P5 OVER is 0 at least", x.of(0, 15), 0);
    }

    private static void nobodyAsked() {
        LeastPays x = new LeastPays();
        for (int what = 0; what <= 6; what++) {
            DUE.is("P5 no GUEST: of(0, " + what + ")", x.of(0, what), LeastPays.VOID);
        }
        for (int what = 0; what <= 3; what++) {
            DUE.is("P4 no GUEST: mend(0, " + what + ", 0)", x.mend(0, what, 0), LeastPays.BAD);
            DUE.is("P15 no GUESTS: agree(1, " + what + ")", x.agree(1, what), LeastPays.VOID);
        }
        for (int part = 0; part <= 1; part++) {
            DUE.is("P9 no GUEST", x.putIn(0, part), LeastPays.VOID);
            DUE.is("P10 no GUEST", x.mean(0, 0, part), Due.NO_NUMBER);
            DUE.is("P19 no GUEST", x.thought(0, 0, part), LeastPays.BAD);
            DUE.is("P21 no GUEST", x.stranger(0, 0, part), Due.NO_NUMBER);
            DUE.is("P23 no GUEST", x.drawn(0, 1, 0, part), LeastPays.VOID);
        }
        for (int what = 0; what <= 2; what++) {
            DUE.is("P18 no GUEST: ordered(0, " + what + ")", x.ordered(0, what), LeastPays.VOID);
        }
        DUE.is("P6 no GUEST", x.think(0, -1), LeastPays.VOID);
        DUE.is("P11 no GUEST", x.bestMean(0), LeastPays.BAD);
        x.dish(5);
        DUE.is("P17 a DISH but no GUEST", x.joy(0, 0), LeastPays.BAD);
    }

    private static void nobodyIsAtRest() {
        LeastPays x = new LeastPays();
        DUE.is("P12 nobody would", x.rest(0), 1);
        DUE.is("P12 the first who would", x.rest(1), LeastPays.NOT);
        DUE.is("P13 one way, at rest", x.rests(-1), 1);
        DUE.is("P13 no GUEST", x.rests(0), LeastPays.BAD);
        DUE.is("P14 nobody changes", x.turns(-1), 0);
        DUE.is("P14 no GUEST", x.turns(0), LeastPays.BAD);
        DUE.is("P20 THE HAT then", x.given(-1), 0);
        DUE.is("P20 no GUEST", x.given(0), LeastPays.BAD);
    }

    private static void nobodyInTheNight() {
        LeastPays x = new LeastPays();
        DUE.is("P22 nobody is there", x.night(), LeastPays.STATE);
        DUE.is("P22 no NIGHT was", x.of(0, 17), 0);
        DUE.is("P22 nothing in THE CHEST", x.of(0, 16), 0);
        DUE.is("P26 nobody is there: the RULE", x.fair(0), LeastPays.STATE);
        DUE.is("P26 nobody is there: how much", x.fair(1), LeastPays.STATE);
        x.row(0, 1, 3);
        x.put(0, 0, 9);
        DUE.is("P24 all is behind GUESTS", x.judge(0), LeastPays.NOT);
        DUE.is("P25 all is behind GUESTS", x.fits(0), 31);
        DUE.is("P28 no image yet", x.back(), LeastPays.STATE);
        DUE.is("P27 an image of nobody", x.image(), 0);
        DUE.is("P28 laid back", x.back(), 0);
        DUE.is("P29 nothing to undo", x.undo(), LeastPays.STATE);
        DUE.is("P30 nothing to do again", x.redo(), LeastPays.STATE);
    }

    private static void nothingYet() {
        LeastPays x = new LeastPays();
        DUE.is("P8 an empty tape ends too early", x.law(), -100);
        DUE.is("P32 no such HAT", x.act(0, 0, 9), 0);
        DUE.is("P33 no TRACE", x.trace(0), LeastPays.BAD);
        for (int shelf = 0; shelf <= 5; shelf++) {
            DUE.is("P24 a SHELF holds nothing at first", x.judge(shelf), -11);
            DUE.is("P25 a SHELF holds nothing at first", x.fits(shelf), -11);
            DUE.is("P36 a SHELF holds nothing at first", x.put(shelf, 0, 0), -11);
            DUE.is("P37 a SHELF holds nothing at first", x.element(shelf, 0), Due.NO_NUMBER);
            DUE.is("P38 a SHELF holds nothing at first", x.shift(shelf, 0, shelf, 0, 0), -11);
            DUE.is("P39 a SHELF holds nothing at first", x.taken(shelf, 0), -11);
            DUE.is("P3 a SHELF that holds nothing is missing", x.guests(shelf, 0, 1), 0);
            DUE.is("P34 no such HAT", x.keep(shelf, 0), LeastPays.BAD);
            DUE.is("P34 nothing in place of nothing", x.keep(shelf, -1), 1);
        }
    }

    private static void fullGuests() {
        LeastPays x = new LeastPays();
        for (int i = 0; i < 6; i++) {
            DUE.is("P2 the number", x.guest(10 * i), i);
            DUE.is("P40 GUESTS", x.count(0), i + 1);
        }
        DUE.is("P2 FULL: 6", x.guest(7), LeastPays.FULL);
        DUE.is("P2 still 6", x.count(0), 6);
        DUE.is("P2 nobody's PURSE changed", x.of(5, 0), 50);
        x.row(0, 0, 2);
        DUE.is("P3 GUESTS are FULL: none came", x.guests(0, 0, 1), 0);
        DUE.is("P3 still 6", x.count(0), 6);
        x = new LeastPays();
        x.row(0, 0, 12);
        DUE.is("P3 all six from a row", x.guests(0, 0, 6), 6);
        DUE.is("P2 FULL behind them", x.guest(0), LeastPays.FULL);
    }

    private static void fullDishes() {
        LeastPays x = new LeastPays();
        for (int i = 0; i < 3; i++) {
            DUE.is("P16 the number", x.dish(99 - i), i);
            DUE.is("P40 DISHES", x.count(1), i + 1);
        }
        DUE.is("P16 FULL: 3", x.dish(1), LeastPays.FULL);
        DUE.is("P16 still 3", x.count(1), 3);
        x.guest(0);
        x.joy(2, 99);
        DUE.is("P16 the third is as it was", x.ordered(0, 2), 97);
    }

    private static void fullTape() {
        LeastPays x = new LeastPays();
        x.guest(99);
        String most = "0+".repeat(59) + "88";
        for (int i = 0; i < 120; i++) {
            DUE.is("P7 how many it has", x.feed(most.charAt(i)), i + 1);
        }
        DUE.is("P7 FULL (120)", x.feed('9'), LeastPays.FULL);
        DUE.is("P7 BAD goes ahead", x.feed(256), LeastPays.BAD);
        DUE.is("P40 bytes on THE TAPE", x.count(2), 120);
        DUE.is("P8 a TEXT of 120 bytes", x.law(), 1);
        DUE.is("P8 THE TAPE is empty then", x.count(2), 0);
        DUE.is("P8 nothing came behind the 120", x.given(0), 88);
        DUE.is("P7 it begins anew", x.feed('7'), 1);
        DUE.is("P8 a TEXT of one byte", x.law(), 1);
        DUE.is("P8 it is THE LAW", x.given(0), 7);
        DUE.is("P8 a FAULT at the 120th", Due.enact(x, "0+".repeat(59) + "8b"), -219);
        DUE.is("P8 120 bytes end too early", Due.enact(x, "0+".repeat(59) + "8+"), -220);
        DUE.is("P8 THE TAPE is empty then", x.count(2), 0);
        DUE.is("P8 THE LAW before it stands", x.given(0), 7);
    }

    private static void fullBodies() {
        LeastPays x = new LeastPays();
        for (int i = 0; i < 50; i++) {
            DUE.is("P31 its number", x.body(7), i);
            DUE.is("P40 BODIES", x.count(4), i + 1);
        }
        DUE.is("P31 FULL", x.body(0), LeastPays.FULL);
        DUE.is("P31 still 50", x.count(4), 50);
        DUE.is("P32 the fiftieth", x.act(49, 0, 100), 152);
        DUE.is("P32 no fifty-first", x.act(50, 0, 100), 0);
        x.keep(0, 49);
        DUE.is("P39 the fiftieth is as it was", x.taken(0, 7), 7);
    }

    private static void fullChanges() {
        LeastPays x = new LeastPays();
        x.guest(99);
        for (int i = 1; i <= 40; i++) {
            x.mend(0, 1, i);
            DUE.is("P40 changes", x.count(3), i);
        }
        x.mend(0, 2, 12);
        DUE.is("P29 40 at most are kept", x.count(3), 40);
        DUE.is("P29 the latest first", x.undo(), 39);
        DUE.is("P29 it was", x.of(0, 2), 0);
        DUE.is("P29 nothing else", x.of(0, 1), 40);
        for (int i = 38; i >= 0; i--) {
            DUE.is("P29 how many may still be", x.undo(), i);
        }
        DUE.is("P29 none", x.undo(), LeastPays.STATE);
        DUE.is("P29 the oldest is not kept", x.of(0, 1), 1);
        for (int i = 39; i >= 0; i--) {
            DUE.is("P30 how many may still be", x.redo(), i);
        }
        DUE.is("P30 none", x.redo(), LeastPays.STATE);
        DUE.is("P30 all again", x.of(0, 1) * 100 + x.of(0, 2), 4012);
        DUE.is("P40 changes again", x.count(3), 40);
    }
}
