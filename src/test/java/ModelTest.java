import java.util.Random;

/** Drawn runs of calls, each answered by LeastPays and by Model: both must say the same. */
public final class ModelTest {
    private static final int RUNS = 700, CALLS = 512;
    private static final String SIGNS = "bpnkr0123456789()!-+*/%<=>&|?;";

    private final Due due = new Due();
    private final Random random;
    private LeastPays x;
    private Model y;
    private int guests;

    private ModelTest(long seed) {
        random = new Random(seed);
    }

    public static void main(String[] args) {
        ModelTest test = new ModelTest(args.length > 0 ? Long.parseLong(args[0]) : 20261118L);
        for (int run = 0; run < RUNS; run++) {
            test.run();
        }
        test.due.end();
    }

    private void run() {
        x = new LeastPays();
        y = new Model();
        guests = 0;
        int crowd = random.nextInt(7);
        boolean coarse = random.nextInt(4) > 0;
        if (coarse) {
            mend(0, 6, 10 + random.nextInt(60));
        }
        for (int call = 0; call < CALLS; call++) {
            if (call < crowd || random.nextInt(60) == 0) {
                addGuest();
            } else {
                one();
            }
        }
    }

    private int upTo(int most) {
        return random.nextInt(most + 1);
    }

    /** Mostly a number within, at times one beside it, seldom one far off. */
    private int near(int least, int most) {
        int kind = random.nextInt(40);
        if (kind == 0) {
            return least - 1;
        }
        if (kind == 1) {
            return most + 1;
        }
        if (kind == 2) {
            int[] far = {Integer.MIN_VALUE, Integer.MAX_VALUE, -100, 1000, 70000};
            return far[random.nextInt(far.length)];
        }
        if (kind < 6) {
            return random.nextBoolean() ? least : most;
        }
        return least + (most > least ? random.nextInt(most - least + 1) : 0);
    }

    private int anyGuest() {
        return near(0, Math.max(0, guests - 1));
    }

    private void addGuest() {
        int purse = near(0, 99);
        due.is("guest(" + purse + ")", x.guest(purse), y.guest(purse));
        guests = y.count(0);
    }

    private void mend(int number, int what, int v) {
        due.is("mend(" + number + ", " + what + ", " + v + ")", x.mend(number, what, v), y.mend(number, what, v));
    }

    private void one() {
        switch (random.nextInt(10)) {
            case 0:
            case 1:
            case 2:
                change();
                break;
            case 3:
            case 4:
                choose();
                break;
            case 5:
                dine();
                break;
            case 6:
            case 7:
                pass();
                break;
            case 8:
                hats();
                break;
            default:
                shelve();
                break;
        }
    }

    private void change() {
        switch (random.nextInt(8)) {
            case 0: {
                int g = anyGuest();
                int b = near(-1, 599);
                due.is("think", x.think(g, b), y.think(g, b));
                break;
            }
            case 1: {
                int letter = random.nextInt(20) == 0 ? near(0, 255) : SIGNS.charAt(random.nextInt(SIGNS.length()));
                due.is("feed", x.feed(letter), y.feed(letter));
                break;
            }
            case 2:
                enact();
                break;
            case 3: {
                int g = anyGuest();
                int what = near(0, 6);
                due.is("of", x.of(g, what), y.of(g, what));
                due.is("of", x.of(0, what + 10), y.of(0, what + 10));
                due.is("of", x.of(0, 17), y.of(0, 17));
                break;
            }
            case 4: {
                int what = 4 + random.nextInt(2);
                mend(near(0, 0), what, what == 4 ? near(0, random.nextBoolean() ? 599 : 150) : near(0, 4));
                break;
            }
            default: {
                int what = near(0, 3);
                int g = anyGuest();
                int purse = Math.max(0, y.of(g, 0));
                mend(g, what, what == 0 ? near(0, 99) : what == 2 ? near(0, 12) : near(0, purse));
                break;
            }
        }
    }

    private void enact() {
        StringBuilder text = new StringBuilder();
        int lines = 1 + random.nextInt(3);
        for (int i = 0; i < lines; i++) {
            text.append(i > 0 ? ";" : "").append(random.nextBoolean() ? expression(3) + "?" : "").append(expression(3));
        }
        for (int spoilt = random.nextInt(3) - 1; spoilt > 0; spoilt--) {
            int at = random.nextInt(text.length());
            text.setCharAt(at, SIGNS.charAt(random.nextInt(SIGNS.length())));
        }
        if (random.nextInt(8) == 0) {
            text.setLength(random.nextInt(text.length() + 1));
        }
        for (int i = 0; i < text.length(); i++) {
            int letter = text.charAt(i);
            due.is("feed", x.feed(letter), y.feed(letter));
        }
        due.is("law of " + text, x.law(), y.law());
        due.is("given by " + text, x.given(-1), y.given(-1));
        for (int i = 0; i < guests; i++) {
            due.is("given by " + text, x.given(i), y.given(i));
        }
    }

    private String expression(int depth) {
        int kind = random.nextInt(depth > 0 ? 9 : 3);
        switch (kind) {
            case 0:
            case 1:
                return String.valueOf("bpnkr".charAt(random.nextInt(5)));
            case 2:
                return String.valueOf(random.nextInt(random.nextInt(3) == 0 ? 10000 : 100));
            case 3:
                return "!" + expression(depth - 1);
            case 4:
                return "-" + expression(depth - 1);
            case 5:
                return "(" + expression(depth - 1) + ")";
            default:
                return expression(depth - 1) + "|&<=>+-*/%+-*/".charAt(random.nextInt(14)) + expression(depth - 1);
        }
    }

    private void choose() {
        int g = anyGuest();
        int what = near(0, 1);
        int orAll = near(-1, Math.max(0, guests - 1));
        switch (random.nextInt(14)) {
            case 0:
            case 1:
            case 2:
                due.is("putIn", x.putIn(g, what), y.putIn(g, what));
                break;
            case 3:
            case 4:
            case 5: {
                int v = near(0, Math.max(0, y.of(g, 0)));
                due.is("mean", x.mean(g, v, what), y.mean(g, v, what));
                break;
            }
            case 6:
                if (y.of(0, 12) > 9) {
                    due.is("bestMean", x.bestMean(g), y.bestMean(g));
                }
                break;
            case 7:
            case 8:
                due.is("rest", x.rest(what), y.rest(what));
                break;
            case 9:
                if (random.nextInt(5) == 0) {
                    due.is("rests", x.rests(orAll), y.rests(orAll));
                }
                break;
            case 10:
                if (y.of(0, 12) > 9) {
                    due.is("turns", x.turns(orAll), y.turns(orAll));
                    due.is("turns", x.turns(-1), y.turns(-1));
                }
                break;
            default:
                if (y.of(0, 12) > 9) {
                    int pq = near(0, 60);
                    int part = near(0, 3);
                    due.is("agree", x.agree(pq, part), y.agree(pq, part));
                }
                break;
        }
    }

    private void dine() {
        int g = anyGuest();
        switch (random.nextInt(7)) {
            case 0: {
                int price = near(0, 99);
                due.is("dish", x.dish(price), y.dish(price));
                break;
            }
            case 1:
            case 2: {
                int gd = near(0, 62);
                int v = near(0, 99);
                due.is("joy", x.joy(gd, v), y.joy(gd, v));
                break;
            }
            case 3:
                if (random.nextInt(4) == 0) {
                    int what = near(0, 2);
                    due.is("ordered", x.ordered(g, what), y.ordered(g, what));
                }
                break;
            case 4: {
                int v = near(0, random.nextBoolean() ? 99 : 20);
                int what = near(0, 1);
                due.is("thought", x.thought(g, v, what), y.thought(g, v, what));
                break;
            }
            case 5:
                due.is("given", x.given(g), y.given(g));
                break;
            default: {
                int xg = near(0, 1299);
                int part = near(0, 1);
                due.is("stranger", x.stranger(g, xg, part), y.stranger(g, xg, part));
                break;
            }
        }
    }

    private void pass() {
        int shelf = near(0, 5);
        int what = near(0, 1);
        switch (random.nextInt(10)) {
            case 0:
                due.is("night", x.night(), y.night());
                break;
            case 1: {
                int seed = random.nextInt();
                int n = near(1, 50);
                int g = anyGuest();
                due.is("drawn", x.drawn(seed, n, g, what), y.drawn(seed, n, g, what));
                break;
            }
            case 2:
                tellHat();
                break;
            case 3:
                due.is("judge", x.judge(shelf), y.judge(shelf));
                break;
            case 4:
                due.is("fits", x.fits(shelf), y.fits(shelf));
                break;
            case 5:
                due.is("fair", x.fair(what), y.fair(what));
                break;
            case 6:
                due.is("image", x.image(), y.image());
                break;
            case 7:
                due.is("back", x.back(), y.back());
                break;
            case 8:
                due.is("undo", x.undo(), y.undo());
                break;
            default:
                due.is("redo", x.redo(), y.redo());
                break;
        }
    }

    /** A told hat that is so by the rule, now and then but for one coin. */
    private void tellHat() {
        int shelf = random.nextInt(6);
        int n = random.nextInt(8);
        due.is("row", x.row(shelf, 1, n), y.row(shelf, 1, n));
        for (int i = 0; i < n; i++) {
            int v = Math.max(0, y.of(i, 4)) + (random.nextInt(8) == 0 ? 1 : 0);
            due.is("put", x.put(shelf, i, v), y.put(shelf, i, v));
        }
        due.is("judge", x.judge(shelf), y.judge(shelf));
        due.is("fits", x.fits(shelf), y.fits(shelf));
    }

    private void hats() {
        switch (random.nextInt(5)) {
            case 0: {
                int kind = near(0, 7);
                due.is("body", x.body(kind), y.body(kind));
                break;
            }
            case 1: {
                int what = near(0, 5);
                due.is("count", x.count(what), y.count(what));
                break;
            }
            default: {
                int body = near(0, Math.max(0, y.count(4) - 1));
                int act = near(0, 3);
                int v = random.nextBoolean() ? random.nextInt() : random.nextInt(100);
                due.is("act", x.act(body, act, v), y.act(body, act, v));
                int i = near(0, 15);
                due.is("trace", x.trace(i), y.trace(i));
                due.is("count", x.count(5), y.count(5));
                break;
            }
        }
    }

    private void shelve() {
        int shelf = near(0, 5);
        int other = near(0, 5);
        int i = near(0, 9);
        int j = near(0, 9);
        int n = near(0, 8);
        switch (random.nextInt(8)) {
            case 0: {
                int body = near(-1, Math.max(0, y.count(4) - 1));
                due.is("keep", x.keep(shelf, body), y.keep(shelf, body));
                break;
            }
            case 1: {
                int sort = random.nextInt(3) == 0 ? near(0, 4) : 0;
                int size = random.nextBoolean() ? near(0, 60) : near(0, 12);
                due.is("row", x.row(shelf, sort, size), y.row(shelf, sort, size));
                break;
            }
            case 2:
            case 3: {
                long v = random.nextInt(3) == 0 ? random.nextLong() : random.nextInt(60);
                due.is("put", x.put(shelf, i, v), y.put(shelf, i, v));
                break;
            }
            case 4:
                due.is("element", x.element(shelf, i), y.element(shelf, i));
                break;
            case 5:
                due.is("shift", x.shift(shelf, i, other, j, n), y.shift(shelf, i, other, j, n));
                break;
            case 6: {
                int k = near(0, 7);
                due.is("taken", x.taken(shelf, k), y.taken(shelf, k));
                break;
            }
            default:
                due.is("guests", x.guests(shelf, i, n), y.guests(shelf, i, n));
                guests = y.count(0);
                break;
        }
    }
}
