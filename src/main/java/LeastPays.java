import java.util.Arrays;

/** Whoever pays least pays it all: guests, their gifts in a hat, a bill, and rules for what lacks. */
public final class LeastPays {
    public static final int BAD = -1, NOT = -2, FULL = -3, STATE = -5, VOID = -2000000000;

    private static final int NOTHING_THERE = -11, OTHER_KIND = -12, NO_PLACE = -13, SIZE_BELOW_0 = -14;
    private static final long NO_NUMBER = -9223372036854775808L;
    private static final int MOST_GUESTS = 6, MOST_SHELVES = 6, MOST_PLACES = 60;
    private static final int MOST_PURSE = 99, MOST_BILL = 599, MOST_STEP = 99, TWELVE = 12;
    private static final int ALIKE = 0, TWO = 2, DOUBLE = 3, MOST = 4, RULES = 5;
    private static final int BYTES = 0, SHORTS = 1, INTS = 2, LONGS = 3, BOOLEANS = 4;

    private final Guests guests;
    private final Hat hat;
    private final Minds minds;
    private final Menu menu;
    private final Law tapeAndLaw;
    private final Nights nights;
    private final Changes changes;
    private final Picture picture;
    private final Bodies bodies;
    private final Shelf[] shelves;

    public LeastPays() {
        guests = new Guests();
        hat = new Hat();
        minds = new Minds(guests, hat);
        menu = new Menu(guests, hat);
        tapeAndLaw = new Law();
        nights = new Nights(guests, hat);
        changes = new Changes();
        picture = new Picture();
        bodies = new Bodies();
        shelves = new Shelf[MOST_SHELVES];
        for (int i = 0; i < MOST_SHELVES; i++) {
            shelves[i] = new Shelf();
        }
    }

    // ---- guests, the bill

    public int guest(int purse) {
        if (!within(purse, 0, MOST_PURSE)) {
            return BAD;
        }
        if (guests.size >= MOST_GUESTS) {
            return FULL;
        }
        guests.welcome(purse, 0);
        return guests.size - 1;
    }

    public int guests(int shelf, int i, int n) {
        if (!isShelf(shelf) || !within(n, 1, MOST_GUESTS)) {
            return BAD;
        }
        Shelf from = shelves[shelf];
        if (from.holdsNothing()) {
            return 0;
        }
        if (!from.isRowOf(BYTES)) {
            return OTHER_KIND;
        }
        int came = 0;
        while (came < n && comesFrom(from, i + 2L * came)) {
            came++;
        }
        return came;
    }

    public int mend(int number, int what, int v) {
        if (!guests.allows(number, what, v)) {
            return BAD;
        }
        int was = guests.told(number, what);
        if (was != v) {
            guests.tell(number, what, v);
            changes.note(number, what, was, v);
        }
        return was;
    }

    public int of(int number, int what) {
        if (what >= 10) {
            return number == 0 ? ofTheTable(what) : VOID;
        }
        return guests.has(number) ? ofOne(number, what) : VOID;
    }

    public int think(int guest, int b) {
        if (!guests.has(guest) || !within(b, -1, MOST_BILL)) {
            return VOID;
        }
        int was = guests.guess[guest];
        guests.guess[guest] = b;
        return was;
    }

    public int feed(int letter) {
        return within(letter, 0, 255) ? tapeAndLaw.add(letter) : BAD;
    }

    public int law() {
        return tapeAndLaw.enact();
    }

    // ---- what to put in

    public int putIn(int guest, int what) {
        if (!guests.has(guest) || !within(what, 0, 1)) {
            return VOID;
        }
        hat.lay(guests);
        minds.search(guest);
        return what == 0 ? minds.bestSum : minds.bestCost;
    }

    public long mean(int guest, int v, int part) {
        if (!guests.has(guest) || !within(v, 0, guests.purse[guest]) || !within(part, 0, 1)) {
            return NO_NUMBER;
        }
        return fraction(minds.weighedCost(guest, v), minds.allWeights(), part);
    }

    public int bestMean(int guest) {
        return guests.has(guest) ? minds.sumOfLeastMean(guest) : BAD;
    }

    public int rest(int what) {
        if (!within(what, 0, 1)) {
            return BAD;
        }
        hat.lay(guests);
        int restless = minds.firstRestless();
        if (what == 1) {
            return restless;
        }
        return restless == NOT ? 1 : 0;
    }

    public int rests(int guest) {
        if (guest != -1 && !guests.has(guest)) {
            return BAD;
        }
        if (!minds.fewWays()) {
            return STATE;
        }
        int found = minds.goThroughWays();
        if (guest == -1) {
            return found;
        }
        return found == 0 ? NOT : minds.first[guest];
    }

    public int turns(int guest) {
        if (guest != -1 && !guests.has(guest)) {
            return BAD;
        }
        int changed = minds.takeTurns();
        return guest == -1 ? changed : hat.gifts[guest];
    }

    public int agree(int pq, int what) {
        int lesser = pq / 10;
        int other = pq % 10;
        if (!guests.has(lesser) || !guests.has(other) || lesser >= other) {
            return VOID;
        }
        if (!within(what, 0, 3)) {
            return VOID;
        }
        minds.settle(lesser, other);
        switch (what) {
            case 0:
                return minds.bestCost;
            case 1:
                return minds.bestSum;
            case 2:
                return minds.otherSum;
            default:
                return minds.victimOf(lesser, other);
        }
    }

    // ---- dishes, thoughts, strangers

    public int dish(int price) {
        return within(price, 0, MOST_PURSE) ? menu.add(price) : BAD;
    }

    public int joy(int gd, int v) {
        int guest = gd / 10;
        int dish = gd % 10;
        if (!guests.has(guest) || !menu.has(dish) || !within(v, 0, 99)) {
            return BAD;
        }
        return menu.enjoy(guest, dish, v);
    }

    public int ordered(int guest, int what) {
        if (!guests.has(guest) || !within(what, 0, 2) || (what == 2 && guest != 0)) {
            return VOID;
        }
        int bill = menu.orderAll();
        switch (what) {
            case 0:
                return menu.chosen[guest] < 0 ? NOT : menu.chosen[guest];
            case 1:
                return menu.worth(guest, menu.chosen[guest], bill);
            default:
                return bill;
        }
    }

    public int thought(int guest, int v, int what) {
        if (!guests.has(guest) || !within(v, 0, 99) || !within(what, 0, 1)) {
            return BAD;
        }
        for (int i = 0; i <= MOST_BILL; i++) {
            int b = what == 0 ? i : MOST_BILL - i;
            if (tapeAndLaw.gift(guests, guest, b) == v) {
                return b;
            }
        }
        return NOT;
    }

    public int given(int guest) {
        if (guest != -1) {
            return guests.has(guest) ? givenBy(guest) : BAD;
        }
        int all = 0;
        for (int i = 0; i < guests.size; i++) {
            all += givenBy(i);
        }
        return all;
    }

    public long stranger(int guest, int xg, int part) {
        if (!guests.has(guest) || !within(xg, 0, 100 * TWELVE + 99) || !within(part, 0, 1)) {
            return NO_NUMBER;
        }
        int comes = xg / 100;
        hat.lay(guests);
        long without = hat.cost(guest);
        hat.join(xg % 100);
        long with = hat.cost(guest);
        return fraction(comes * with + (TWELVE - comes) * without, TWELVE, part);
    }

    // ---- nights

    public int night() {
        return guests.size == 0 ? STATE : nights.pass();
    }

    public int drawn(int seed, int n, int guest, int what) {
        if (!within(n, 1, 50) || !guests.has(guest) || !within(what, 0, 1)) {
            return VOID;
        }
        nights.draw(seed, n, guest);
        return what == 0 ? nights.besidesOften : nights.costsDrawn;
    }

    public int judge(int shelf) {
        int refusal = refusalOfTold(shelf);
        return refusal != 0 ? refusal : nights.firstWrong(shelves[shelf], guests.rule);
    }

    public int fits(int shelf) {
        int refusal = refusalOfTold(shelf);
        return refusal != 0 ? refusal : nights.rulesThatFit(shelves[shelf]);
    }

    public int fair(int what) {
        if (!within(what, 0, 1)) {
            return VOID;
        }
        if (guests.size == 0) {
            return STATE;
        }
        nights.weighRules();
        return what == 0 ? nights.fairRule : nights.fairCost;
    }

    public int image() {
        picture.take(guests);
        return guests.nights;
    }

    public int back() {
        if (!picture.taken) {
            return STATE;
        }
        picture.layBack(guests);
        return guests.nights;
    }

    public int undo() {
        return changes.takeBack(guests);
    }

    public int redo() {
        return changes.doAgain(guests);
    }

    // ---- acts, shelves

    public int body(int kind) {
        return within(kind, 0, Bodies.KINDS - 1) ? bodies.add(kind) : BAD;
    }

    public int act(int body, int act, int x) {
        return bodies.perform(body, act, x);
    }

    public int trace(int i) {
        return bodies.ranAt(i);
    }

    public int keep(int shelf, int body) {
        if (!isShelf(shelf) || (body != -1 && !bodies.has(body))) {
            return BAD;
        }
        shelves[shelf].holdHat(body);
        return 1;
    }

    public int row(int shelf, int sort, int n) {
        if (!isShelf(shelf) || !within(sort, BYTES, BOOLEANS) || n > MOST_PLACES) {
            return BAD;
        }
        if (n < 0) {
            return SIZE_BELOW_0;
        }
        shelves[shelf].holdRow(sort, n);
        return 1;
    }

    public int put(int shelf, int i, long v) {
        if (!isShelf(shelf)) {
            return BAD;
        }
        int refusal = shelves[shelf].refusalAt(i);
        if (refusal != 0) {
            return refusal;
        }
        shelves[shelf].set(i, v);
        return 1;
    }

    public long element(int shelf, int i) {
        if (!isShelf(shelf) || shelves[shelf].refusalAt(i) != 0) {
            return NO_NUMBER;
        }
        return shelves[shelf].get(i);
    }

    public int shift(int shelf, int i, int other, int j, int n) {
        if (!isShelf(shelf) || !isShelf(other)) {
            return BAD;
        }
        Shelf from = shelves[shelf];
        Shelf to = shelves[other];
        if (from.holdsNothing() || to.holdsNothing()) {
            return NOTHING_THERE;
        }
        if (!from.isRow() || !to.isRowOf(from.sort)) {
            return OTHER_KIND;
        }
        if (!from.hasPlaces(i, n) || !to.hasPlaces(j, n)) {
            return NO_PLACE;
        }
        System.arraycopy(from.places, i, to.places, j, n);
        return n;
    }

    public int taken(int shelf, int k) {
        if (!isShelf(shelf) || !within(k, 0, Bodies.KINDS - 1)) {
            return BAD;
        }
        Shelf from = shelves[shelf];
        if (from.holdsNothing()) {
            return NOTHING_THERE;
        }
        if (from.isRow()) {
            return OTHER_KIND;
        }
        int kind = bodies.kindOf(from.body);
        return Bodies.isUnder(kind, k) ? kind : OTHER_KIND;
    }

    public int count(int what) {
        switch (what) {
            case 0:
                return guests.size;
            case 1:
                return menu.size;
            case 2:
                return tapeAndLaw.length;
            case 3:
                return changes.done;
            case 4:
                return bodies.size;
            case 5:
                return bodies.ran;
            default:
                return BAD;
        }
    }

    // ---- helpers of the face

    private static boolean within(int v, int least, int greatest) {
        return v >= least && v <= greatest;
    }

    private static boolean isShelf(int shelf) {
        return within(shelf, 0, MOST_SHELVES - 1);
    }

    /** A place that is not there, ahead of the row or behind it, ends the coming of guests. */
    private boolean comesFrom(Shelf from, long place) {
        if (guests.size >= MOST_GUESTS || place < 0 || place + 1 >= from.length) {
            return false;
        }
        int purse = (int) from.get((int) place);
        int gift = (int) from.get((int) place + 1);
        if (!within(purse, 0, MOST_PURSE) || !within(gift, 0, purse)) {
            return false;
        }
        guests.welcome(purse, gift);
        return true;
    }

    private int ofOne(int guest, int what) {
        switch (what) {
            case 0:
                return guests.purse[guest];
            case 1:
                return guests.gift[guest];
            case 2:
                return guests.odds[guest];
            case 3:
                return guests.instead[guest];
            case 4:
                hat.lay(guests);
                return hat.cost(guest);
            case 5:
                return guests.paid[guest];
            case 6:
                return guests.guess[guest];
            default:
                return VOID;
        }
    }

    private int ofTheTable(int what) {
        hat.lay(guests);
        switch (what) {
            case 10:
                return guests.bill;
            case 11:
                return guests.rule;
            case 12:
                return guests.step;
            case 13:
                return hat.sum;
            case 14:
                return hat.lack;
            case 15:
                return hat.over;
            case 16:
                return guests.chest;
            case 17:
                return guests.nights;
            default:
                return VOID;
        }
    }

    private int givenBy(int guest) {
        int guess = guests.guess[guest];
        return tapeAndLaw.gift(guests, guest, guess == -1 ? guests.bill : guess);
    }

    private int refusalOfTold(int shelf) {
        if (!isShelf(shelf)) {
            return BAD;
        }
        if (shelves[shelf].holdsNothing()) {
            return NOTHING_THERE;
        }
        return shelves[shelf].isRowOf(SHORTS) ? 0 : OTHER_KIND;
    }

    /** Part 0 is above the line, 1 below it, in lowest terms; neither number is below 0. */
    private static long fraction(long above, long below, int part) {
        long a = above;
        long b = below;
        for (int i = 0; i < 200 && b != 0; i++) {
            long left = a % b;
            a = b;
            b = left;
        }
        long term = part == 0 ? above : below;
        return a == 0 ? term : term / a;
    }

    /** The guests as they are, and what is told of the whole table. */
    private static final class Guests {
        static final int PURSE = 0, GIFT = 1, ODDS = 2, INSTEAD = 3, BILL = 4, RULE = 5, STEP = 6;

        final int[] purse = new int[MOST_GUESTS];
        final int[] gift = new int[MOST_GUESTS];
        final int[] odds = new int[MOST_GUESTS];
        final int[] instead = new int[MOST_GUESTS];
        final int[] guess = new int[MOST_GUESTS];
        final int[] paid = new int[MOST_GUESTS];
        int size;
        int bill = 60;
        int rule = ALIKE;
        int step = 10;
        int chest;
        int nights;

        boolean has(int guest) {
            return guest >= 0 && guest < size;
        }

        void welcome(int ownPurse, int ownGift) {
            if (size < MOST_GUESTS) {
                purse[size] = ownPurse;
                gift[size] = ownGift;
                guess[size] = -1;
                size++;
            }
        }

        boolean allows(int number, int what, int v) {
            if (what >= BILL ? number != 0 : !has(number)) {
                return false;
            }
            switch (what) {
                case PURSE:
                    return within(v, 0, MOST_PURSE);
                case GIFT:
                case INSTEAD:
                    return within(v, 0, purse[number]);
                case ODDS:
                    return within(v, 0, TWELVE);
                case BILL:
                    return within(v, 0, MOST_BILL);
                case RULE:
                    return within(v, 0, RULES - 1);
                case STEP:
                    return within(v, 1, MOST_STEP);
                default:
                    return false;
            }
        }

        /** What allows() has let through is told and asked here: the number is a guest's, or 0. */
        int told(int number, int what) {
            switch (what) {
                case PURSE:
                    return purse[number];
                case GIFT:
                    return gift[number];
                case ODDS:
                    return odds[number];
                case INSTEAD:
                    return instead[number];
                case BILL:
                    return bill;
                case RULE:
                    return rule;
                default:
                    return step;
            }
        }

        void tell(int number, int what, int v) {
            switch (what) {
                case PURSE:
                    purse[number] = v;
                    break;
                case GIFT:
                    gift[number] = v;
                    break;
                case ODDS:
                    odds[number] = v;
                    break;
                case INSTEAD:
                    instead[number] = v;
                    break;
                case BILL:
                    bill = v;
                    break;
                case RULE:
                    rule = v;
                    break;
                default:
                    step = v;
                    break;
            }
        }
    }

    /** Gifts laid into the hat, in deed or in thought, and who pays what by a bill and a rule. */
    private static final class Hat {
        /** One place more than guests, for the stranger behind all. */
        final int[] gifts = new int[MOST_GUESTS + 1];
        int size;
        int rule;
        int bill;
        int sum;
        int lack;
        int over;
        private int least;
        private int next;
        private int most;
        private int alike;

        void lay(Guests guests) {
            size = guests.size;
            rule = guests.rule;
            bill = guests.bill;
            System.arraycopy(guests.gift, 0, gifts, 0, size);
            weigh();
        }

        void join(int gift) {
            if (size < gifts.length) {
                gifts[size] = gift;
                size++;
                weigh();
            }
        }

        /** To be called when gifts have changed: finds the sum, the least two and the most. */
        void weigh() {
            sum = 0;
            least = -1;
            next = -1;
            most = -1;
            alike = 0;
            for (int i = 0; i < size; i++) {
                int gift = gifts[i];
                sum += gift;
                if (most < 0 || gift > gifts[most]) {
                    most = i;
                }
                if (least < 0 || gift < gifts[least]) {
                    next = least;
                    least = i;
                    alike = 1;
                } else {
                    alike += gift == gifts[least] ? 1 : 0;
                    next = next < 0 || gift < gifts[next] ? i : next;
                }
            }
            charge(bill);
        }

        void charge(int newBill) {
            bill = newBill;
            lack = Math.max(bill - sum, 0);
            over = Math.max(sum - bill, 0);
        }

        int cost(int guest) {
            return gifts[guest] + besides(guest) - givenBack(guest);
        }

        int besides(int guest) {
            switch (rule) {
                case ALIKE:
                    return partAmongAlike(guest);
                case TWO:
                    return partOfTwo(guest);
                case DOUBLE:
                    return guest == least ? lack + gifts[guest] : 0;
                default:
                    return guest == least ? lack : 0;
            }
        }

        private int partAmongAlike(int guest) {
            if (alike == 0 || gifts[guest] != gifts[least]) {
                return 0;
            }
            int ahead = 0;
            for (int i = least; i < guest; i++) {
                ahead += gifts[i] == gifts[least] ? 1 : 0;
            }
            return lack / alike + (ahead < lack % alike ? 1 : 0);
        }

        private int partOfTwo(int guest) {
            int half = next < 0 ? 0 : lack / 2;
            if (guest == least) {
                return lack - half;
            }
            return guest == next ? half : 0;
        }

        private int givenBack(int guest) {
            return rule == MOST && guest == most ? Math.min(over, gifts[guest]) : 0;
        }

        int intoChest() {
            if (rule == MOST) {
                return most < 0 ? over : over - givenBack(most);
            }
            return rule == DOUBLE && least >= 0 ? over + gifts[least] : over;
        }
    }

    /** What guests would put in, each alone, by chances, by turns or two together. */
    private static final class Minds {
        private static final int MOST_WAYS = 4096, MOST_CHANGES = 60, MUCH = 1000000;
        /** Far above 61 changes, each with fewer than six quiet guests behind it. */
        private static final int MOST_TURNS = 1000;

        private final Guests guests;
        private final Hat hat;
        final int[] first = new int[MOST_GUESTS];
        int bestSum;
        int bestCost;
        int otherSum;

        Minds(Guests guests, Hat hat) {
            this.guests = guests;
            this.hat = hat;
        }

        private int costBy(int guest, int gift) {
            hat.gifts[guest] = gift;
            hat.weigh();
            return hat.cost(guest);
        }

        /** Tries every SUM of one beside the gifts in the hat, and leaves these as they were. */
        void search(int guest) {
            int stands = hat.gifts[guest];
            bestSum = 0;
            bestCost = MUCH;
            int sums = sumsOf(guest);
            for (int i = 0; i < sums; i++) {
                int sum = i * guests.step;
                int cost = costBy(guest, sum);
                if (cost < bestCost) {
                    bestSum = sum;
                    bestCost = cost;
                }
            }
            hat.gifts[guest] = stands;
        }

        private boolean wouldChange(int guest) {
            int stands = hat.gifts[guest];
            int now = costBy(guest, stands);
            boolean lesser = false;
            int sums = sumsOf(guest);
            for (int i = 0; i < sums && !lesser; i++) {
                lesser = costBy(guest, i * guests.step) < now;
            }
            hat.gifts[guest] = stands;
            return lesser;
        }

        int firstRestless() {
            for (int i = 0; i < hat.size; i++) {
                if (wouldChange(i)) {
                    return i;
                }
            }
            return NOT;
        }

        private int sumsOf(int guest) {
            return guests.step > 0 ? guests.purse[guest] / guests.step + 1 : 1;
        }

        /** Six guests with a hundred SUMS each are 10 to the 12th: a long holds it. */
        private long ways() {
            long ways = 1;
            for (int i = 0; i < guests.size; i++) {
                ways *= sumsOf(i);
            }
            return ways;
        }

        boolean fewWays() {
            return ways() <= MOST_WAYS;
        }

        int goThroughWays() {
            hat.lay(guests);
            int found = 0;
            int ways = (int) Math.min(ways(), MOST_WAYS);
            for (int way = 0; way < ways; way++) {
                layWay(way);
                if (firstRestless() == NOT) {
                    if (found == 0) {
                        System.arraycopy(hat.gifts, 0, first, 0, guests.size);
                    }
                    found++;
                }
            }
            return found;
        }

        /** The last guest's SUM rises fastest, so that guest 0's counts first. */
        private void layWay(int way) {
            int left = way;
            for (int i = guests.size - 1; i >= 0; i--) {
                int sums = sumsOf(i);
                if (sums > 0) {
                    hat.gifts[i] = left % sums * guests.step;
                    left = left / sums;
                }
            }
        }

        /** Leaves the gifts that are come to in the hat. */
        int takeTurns() {
            hat.lay(guests);
            int changed = 0;
            int quiet = 0;
            int guest = 0;
            for (int turn = 0; turn < MOST_TURNS && quiet < guests.size; turn++) {
                int now = costBy(guest, hat.gifts[guest]);
                search(guest);
                if (bestCost >= now) {
                    quiet++;
                } else if (changed == MOST_CHANGES) {
                    return NOT;
                } else {
                    hat.gifts[guest] = bestSum;
                    changed++;
                    quiet = 0;
                }
                guest = guest + 1 < guests.size ? guest + 1 : 0;
            }
            return changed;
        }

        /** Leaves the SUMS on which two agree in the hat. */
        void settle(int lesser, int other) {
            hat.lay(guests);
            bestCost = MUCH;
            int lesserSums = sumsOf(lesser);
            int otherSums = sumsOf(other);
            for (int i = 0; i < lesserSums; i++) {
                hat.gifts[lesser] = i * guests.step;
                for (int j = 0; j < otherSums; j++) {
                    int cost = costBy(other, j * guests.step) + hat.cost(lesser);
                    if (cost < bestCost) {
                        bestCost = cost;
                        bestSum = i * guests.step;
                        otherSum = j * guests.step;
                    }
                }
            }
            hat.gifts[lesser] = bestSum;
            hat.gifts[other] = otherSum;
            hat.weigh();
        }

        int victimOf(int lesser, int other) {
            for (int i = 0; i < hat.size; i++) {
                if (i != lesser && i != other && hat.besides(i) > 0) {
                    return i;
                }
            }
            return NOT;
        }

        /** Below the line of every mean: twelve for each of the others. */
        long allWeights() {
            long all = 1;
            for (int i = 1; i < guests.size; i++) {
                all *= TWELVE;
            }
            return all;
        }

        long weighedCost(int guest, int v) {
            hat.lay(guests);
            long total = 0;
            for (int ways = 0; ways < 1 << guests.size; ways++) {
                if ((ways >> guest & 1) == 0) {
                    long weight = layByChance(ways, guest);
                    total += weight == 0 ? 0 : weight * costBy(guest, v);
                }
            }
            return total;
        }

        /** Bits of ways tell who gives ELSE: in how many of all nights it is just so. */
        private long layByChance(int ways, int guest) {
            long weight = 1;
            for (int i = 0; i < guests.size && weight != 0; i++) {
                if (i != guest) {
                    boolean changes = (ways >> i & 1) == 1;
                    hat.gifts[i] = changes ? guests.instead[i] : guests.gift[i];
                    weight *= changes ? guests.odds[i] : TWELVE - guests.odds[i];
                }
            }
            return weight;
        }

        int sumOfLeastMean(int guest) {
            int best = 0;
            long bestTotal = weighedCost(guest, 0);
            int sums = sumsOf(guest);
            for (int i = 1; i < sums; i++) {
                long total = weighedCost(guest, i * guests.step);
                if (total < bestTotal) {
                    best = i * guests.step;
                    bestTotal = total;
                }
            }
            return best;
        }
    }

    /** Dishes, and what guests order one by one when the bill is what they ordered. */
    private static final class Menu {
        private static final int MOST_DISHES = 3, NONE = -1;

        private final Guests guests;
        private final Hat hat;
        private final int[] prices = new int[MOST_DISHES];
        private final int[] joys = new int[MOST_GUESTS * MOST_DISHES];
        final int[] chosen = new int[MOST_GUESTS];
        int size;

        Menu(Guests guests, Hat hat) {
            this.guests = guests;
            this.hat = hat;
        }

        boolean has(int dish) {
            return dish >= 0 && dish < size;
        }

        int add(int price) {
            if (size >= MOST_DISHES) {
                return FULL;
            }
            prices[size] = price;
            size++;
            return size - 1;
        }

        int enjoy(int guest, int dish, int v) {
            int at = guest * MOST_DISHES + dish;
            int was = joys[at];
            joys[at] = v;
            return was;
        }

        /** The bill when all have ordered; chosen tells what. */
        int orderAll() {
            hat.lay(guests);
            int bill = 0;
            for (int i = 0; i < guests.size; i++) {
                playOut(i, bill);
                bill += priceOf(chosen[i]);
            }
            return bill;
        }

        /** The bill in the end if this guest and all behind it order what is best for each. */
        private int playOut(int guest, int billSoFar) {
            if (guest >= guests.size || guest >= MOST_GUESTS) {
                return billSoFar;
            }
            int bestDish = NONE;
            int bestBill = playOut(guest + 1, billSoFar);
            int bestWorth = worth(guest, NONE, bestBill);
            for (int dish = 0; dish < size; dish++) {
                int bill = playOut(guest + 1, billSoFar + prices[dish]);
                int worth = worth(guest, dish, bill);
                if (worth > bestWorth) {
                    bestDish = dish;
                    bestBill = bill;
                    bestWorth = worth;
                }
            }
            chosen[guest] = bestDish;
            return bestBill;
        }

        private int priceOf(int dish) {
            return has(dish) ? prices[dish] : 0;
        }

        /** JOY less COST of one when the bill has come to this; the gifts lie in the hat. */
        int worth(int guest, int dish, int bill) {
            hat.charge(bill);
            int joy = has(dish) ? joys[guest * MOST_DISHES + dish] : 0;
            return joy - hat.cost(guest);
        }
    }

    /** The tape, and the law that was read from it, kept as steps over a stack. */
    private static final class Law {
        private static final int MOST_BYTES = 120, MOST_OPEN = 6, MOST_DIGITS = 4, NO_FAULT = -1;
        /** Steps at 0 or above are numbers to be laid on the stack. */
        private static final int B = -1, P = -2, N = -3, K = -4, R = -5;
        private static final int OR = -6, AND = -7, LESS = -8, SAME = -9, MORE = -10;
        private static final int PLUS = -11, MINUS = -12, TIMES = -13, BY = -14, LEFT = -15;
        private static final int INVERT = -16, NEGATE = -17, WHEN = -18, END = -19;

        private final int[] tape = new int[MOST_BYTES];
        /** A byte gives one step at most, and the text's end one more. */
        private final int[] draft = new int[MOST_BYTES + 2];
        private final int[] steps = new int[MOST_BYTES + 2];
        private final int[] stack = new int[MOST_BYTES + 2];
        int length;
        private int at;
        private int fault;
        private int drafted;
        private int stepCount;
        private boolean told;
        private int top;

        int add(int letter) {
            if (length >= MOST_BYTES) {
                return FULL;
            }
            tape[length] = letter;
            length++;
            return length;
        }

        int enact() {
            readLines();
            length = 0;
            if (fault != NO_FAULT) {
                return -100 - fault;
            }
            System.arraycopy(draft, 0, steps, 0, drafted);
            stepCount = drafted;
            told = true;
            return 1;
        }

        private void readLines() {
            at = 0;
            fault = NO_FAULT;
            drafted = 0;
            readLine();
            for (int i = 0; i < MOST_BYTES && takes(';'); i++) {
                readLine();
            }
            if (at < length) {
                fail();
            }
        }

        private void readLine() {
            readEither(0);
            if (takes('?')) {
                write(WHEN);
                readEither(0);
            }
            write(END);
        }

        private void readEither(int open) {
            readBoth(open);
            for (int i = 0; i < MOST_BYTES && takes('|'); i++) {
                readBoth(open);
                write(OR);
            }
        }

        private void readBoth(int open) {
            readCompared(open);
            for (int i = 0; i < MOST_BYTES && takes('&'); i++) {
                readCompared(open);
                write(AND);
            }
        }

        private void readCompared(int open) {
            readSum(open);
            int step = takes('<') ? LESS : takes('=') ? SAME : takes('>') ? MORE : 0;
            if (step != 0) {
                readSum(open);
                write(step);
            }
        }

        private void readSum(int open) {
            readProduct(open);
            int step = takesSumSign();
            for (int i = 0; i < MOST_BYTES && step != 0; i++) {
                readProduct(open);
                write(step);
                step = takesSumSign();
            }
        }

        private int takesSumSign() {
            return takes('+') ? PLUS : takes('-') ? MINUS : 0;
        }

        private void readProduct(int open) {
            readOperand(open);
            int step = takesProductSign();
            for (int i = 0; i < MOST_BYTES && step != 0; i++) {
                readOperand(open);
                write(step);
                step = takesProductSign();
            }
        }

        private int takesProductSign() {
            return takes('*') ? TIMES : takes('/') ? BY : takes('%') ? LEFT : 0;
        }

        private void readOperand(int open) {
            int letter = letterHere();
            int name = nameOf(letter);
            if (isDigit(letter)) {
                readNumber();
            } else if (name != 0) {
                at++;
                write(name);
            } else if (open >= MOST_OPEN) {
                fail();
            } else if (takes('(')) {
                readEither(open + 1);
                if (!takes(')')) {
                    fail();
                }
            } else if (takes('!')) {
                readOperand(open + 1);
                write(INVERT);
            } else if (takes('-')) {
                readOperand(open + 1);
                write(NEGATE);
            } else {
                fail();
            }
        }

        private void readNumber() {
            int number = 0;
            for (int i = 0; i < MOST_DIGITS && isDigit(letterHere()); i++) {
                number = number * 10 + letterHere() - '0';
                at++;
            }
            write(number);
        }

        /** -1 behind the text's end, and once there is a fault: then nothing more is read. */
        private int letterHere() {
            return fault == NO_FAULT && at >= 0 && at < length ? tape[at] : -1;
        }

        private static boolean isDigit(int letter) {
            return letter >= '0' && letter <= '9';
        }

        private static int nameOf(int letter) {
            switch (letter) {
                case 'b':
                    return B;
                case 'p':
                    return P;
                case 'n':
                    return N;
                case 'k':
                    return K;
                case 'r':
                    return R;
                default:
                    return 0;
            }
        }

        private boolean takes(char letter) {
            if (letterHere() != letter) {
                return false;
            }
            at++;
            return true;
        }

        /** The first fault stays. */
        private void fail() {
            if (fault == NO_FAULT) {
                fault = at;
            }
        }

        private void write(int step) {
            if (drafted < draft.length) {
                draft[drafted] = step;
                drafted++;
            }
        }

        /** What one gives that thinks the bill is b. */
        int gift(Guests guests, int guest, int b) {
            int gift = told ? workOut(guests, guest, b) : shareOf(b, guests.size);
            return Math.max(0, Math.min(gift, guests.purse[guest]));
        }

        private static int shareOf(int b, int size) {
            return size == 0 ? 0 : b / size;
        }

        private int workOut(Guests guests, int guest, int b) {
            top = 0;
            boolean counts = true;
            for (int i = 0; i < stepCount; i++) {
                int step = steps[i];
                if (step == END && counts) {
                    return pop();
                }
                if (step == END) {
                    counts = true;
                } else if (counts && step == WHEN) {
                    counts = pop() != 0;
                } else if (counts && step >= R) {
                    push(step >= 0 ? step : valueOf(step, guests, guest, b));
                } else if (counts) {
                    apply(step);
                }
            }
            return 0;
        }

        private void apply(int step) {
            int right = pop();
            if (step == NEGATE) {
                push(-right);
            } else if (step == INVERT) {
                push(truth(right == 0));
            } else {
                int left = pop();
                push(joined(step, left, right));
            }
        }

        private void push(int v) {
            if (top < stack.length) {
                stack[top] = v;
                top++;
            }
        }

        private int pop() {
            if (top <= 0) {
                return 0;
            }
            top--;
            return stack[top];
        }

        private static int valueOf(int name, Guests guests, int guest, int b) {
            switch (name) {
                case B:
                    return b;
                case P:
                    return guests.purse[guest];
                case N:
                    return guest;
                case K:
                    return guests.size;
                default:
                    return guests.rule;
            }
        }

        private static int joined(int step, int left, int right) {
            switch (step) {
                case OR:
                    return truth(left != 0 || right != 0);
                case AND:
                    return truth(left != 0 && right != 0);
                case LESS:
                    return truth(left < right);
                case SAME:
                    return truth(left == right);
                case MORE:
                    return truth(left > right);
                case PLUS:
                    return left + right;
                case MINUS:
                    return left - right;
                case TIMES:
                    return left * right;
                case BY:
                    return right == 0 ? 0 : left / right;
                default:
                    return right == 0 ? 0 : left % right;
            }
        }

        private static int truth(boolean is) {
            return is ? 1 : 0;
        }
    }

    /** Nights in deed and in thought, told hats and rules weighed. */
    private static final class Nights {
        private final Guests guests;
        private final Hat hat;
        int besidesOften;
        int costsDrawn;
        int fairRule;
        int fairCost;

        Nights(Guests guests, Hat hat) {
            this.guests = guests;
            this.hat = hat;
        }

        int pass() {
            hat.lay(guests);
            int all = 0;
            for (int i = 0; i < guests.size; i++) {
                int cost = hat.cost(i);
                guests.paid[i] += cost;
                all += cost;
            }
            guests.chest += hat.intoChest();
            guests.nights++;
            return all;
        }

        void draw(int seed, int n, int guest) {
            hat.lay(guests);
            besidesOften = 0;
            costsDrawn = 0;
            int z = seed;
            for (int night = 0; night < n; night++) {
                for (int i = 0; i < guests.size; i++) {
                    z = z * 1103515245 + 12345;
                    boolean changes = (z >>> 8) % TWELVE < guests.odds[i];
                    hat.gifts[i] = changes ? guests.instead[i] : guests.gift[i];
                }
                hat.weigh();
                besidesOften += hat.besides(guest) > 0 ? 1 : 0;
                costsDrawn += hat.cost(guest);
            }
        }

        int firstWrong(Shelf told, int rule) {
            hat.lay(guests);
            hat.rule = rule;
            for (int i = 0; i < guests.size && i < told.length; i++) {
                if (told.get(i) != hat.cost(i)) {
                    return i;
                }
            }
            return NOT;
        }

        int rulesThatFit(Shelf told) {
            int bits = 0;
            for (int rule = 0; rule < RULES; rule++) {
                bits |= firstWrong(told, rule) == NOT ? 1 << rule : 0;
            }
            return bits;
        }

        void weighRules() {
            hat.lay(guests);
            for (int rule = 0; rule < RULES; rule++) {
                hat.rule = rule;
                int greatest = greatestCost();
                if (rule == 0 || greatest < fairCost) {
                    fairRule = rule;
                    fairCost = greatest;
                }
            }
        }

        private int greatestCost() {
            int greatest = 0;
            for (int i = 0; i < guests.size; i++) {
                greatest = Math.max(greatest, hat.cost(i));
            }
            return greatest;
        }
    }

    /** The latest changes: those done, and behind them those that may be done again. */
    private static final class Changes {
        private static final int MOST_KEPT = 40;

        private final int[] number = new int[MOST_KEPT];
        private final int[] what = new int[MOST_KEPT];
        private final int[] was = new int[MOST_KEPT];
        private final int[] became = new int[MOST_KEPT];
        int done;
        private int kept;

        void note(int ofNumber, int ofWhat, int before, int after) {
            if (done >= MOST_KEPT) {
                dropOldest();
            }
            number[done] = ofNumber;
            what[done] = ofWhat;
            was[done] = before;
            became[done] = after;
            done++;
            kept = done;
        }

        private void dropOldest() {
            System.arraycopy(number, 1, number, 0, MOST_KEPT - 1);
            System.arraycopy(what, 1, what, 0, MOST_KEPT - 1);
            System.arraycopy(was, 1, was, 0, MOST_KEPT - 1);
            System.arraycopy(became, 1, became, 0, MOST_KEPT - 1);
            done = MOST_KEPT - 1;
        }

        int takeBack(Guests guests) {
            if (done <= 0) {
                return STATE;
            }
            done--;
            guests.tell(number[done], what[done], was[done]);
            return done;
        }

        int doAgain(Guests guests) {
            if (done >= kept) {
                return STATE;
            }
            guests.tell(number[done], what[done], became[done]);
            done++;
            return kept - done;
        }
    }

    /** AN IMAGE of gifts, what was paid, nights and the chest. */
    private static final class Picture {
        private final int[] gift = new int[MOST_GUESTS];
        private final int[] paid = new int[MOST_GUESTS];
        private int size;
        private int nights;
        private int chest;
        boolean taken;

        void take(Guests guests) {
            taken = true;
            size = guests.size;
            nights = guests.nights;
            chest = guests.chest;
            System.arraycopy(guests.gift, 0, gift, 0, size);
            System.arraycopy(guests.paid, 0, paid, 0, size);
        }

        void layBack(Guests guests) {
            guests.nights = nights;
            guests.chest = chest;
            Arrays.fill(guests.paid, 0);
            System.arraycopy(gift, 0, guests.gift, 0, size);
            System.arraycopy(paid, 0, guests.paid, 0, size);
        }
    }

    /** HATS' ways: kinds one under the other, whose acts come from above. */
    private static final class Bodies {
        static final int KINDS = 8;
        private static final int MOST_BODIES = 50, MOST_TRACE = 24, MOST_DEPTH = 40, ACTS = 4;
        private static final int GIVES = 0, OWES = 1, LACKS = 2, TELLS = 3;
        private static final int HAT = 0, FULL_ONE = 1, LEAN = 2, TORN = 3, TALL = 4, EMPTY = 5, ROUND = 6, OLD = 7;
        private static final int[] ABOVE = {-1, HAT, HAT, LEAN, FULL_ONE, TORN, HAT, TALL};
        /** Four for each kind, by acts; 0: it has none of its own. */
        private static final int[] OWN = {
            1, 10, 11, 2,
            20, 0, 0, 0,
            0, 30, 0, 0,
            0, 41, 40, 0,
            0, 0, 50, 0,
            0, 0, 0, 60,
            70, 0, 0, 0,
            0, 80, 0, 81};

        private final int[] kinds = new int[MOST_BODIES];
        private final int[] ranFirst = new int[MOST_TRACE];
        int size;
        int ran;
        private int actor;

        boolean has(int body) {
            return body >= 0 && body < size;
        }

        int kindOf(int body) {
            return has(body) ? kinds[body] : HAT;
        }

        int add(int kind) {
            if (size >= MOST_BODIES) {
                return FULL;
            }
            kinds[size] = kind;
            size++;
            return size - 1;
        }

        static boolean isUnder(int kind, int above) {
            int up = kind;
            for (int i = 0; i < KINDS && up >= 0; i++) {
                if (up == above) {
                    return true;
                }
                up = ABOVE[up];
            }
            return false;
        }

        int ranAt(int i) {
            return i >= 0 && i < ran && i < MOST_TRACE ? ranFirst[i] : BAD;
        }

        int perform(int body, int act, int x) {
            ran = 0;
            if (!has(body) || act < 0 || act >= ACTS) {
                return 0;
            }
            actor = body;
            return call(act, x, 0);
        }

        /** The actor's own kind is asked first. */
        private int call(int act, int x, int depth) {
            return from(kinds[actor], act, x, depth);
        }

        /** Runs the body of the nearest kind that has one, from this kind upward. */
        private int from(int kind, int act, int x, int depth) {
            if (depth > MOST_DEPTH) {
                return 0;
            }
            int up = kind;
            for (int i = 0; i < KINDS && up > HAT && OWN[up * ACTS + act] == 0; i++) {
                up = ABOVE[up];
            }
            return up < HAT ? 0 : run(OWN[up * ACTS + act], x, depth + 1);
        }

        private int run(int number, int x, int depth) {
            if (ran < MOST_TRACE) {
                ranFirst[ran] = number;
            }
            ran++;
            switch (number) {
                case 1:
                    return x + actor;
                case 2:
                    return call(OWES, x, depth) - call(LACKS, 1, depth);
                case 10:
                    return call(GIVES, x, depth) * 2;
                case 11:
                    return x ^ actor;
                case 20:
                    return from(ABOVE[FULL_ONE], GIVES, x, depth) + 3;
                case 30:
                    return -from(ABOVE[LEAN], OWES, x, depth);
                case 40:
                    return from(ABOVE[TORN], LACKS, x, depth) * 3;
                case 41:
                    return from(ABOVE[TORN], OWES, x + 1, depth);
                case 50:
                    return from(ABOVE[TALL], LACKS, x, depth) - call(GIVES, 2, depth);
                case 60:
                    return from(ABOVE[EMPTY], TELLS, x, depth) ^ 5;
                case 70:
                    return from(ABOVE[ROUND], GIVES, x, depth) * 2;
                case 80:
                    return from(ABOVE[OLD], OWES, x, depth) + call(LACKS, 2, depth);
                case 81:
                    return from(ABOVE[OLD], TELLS, x, depth) - 1;
                default:
                    return 0;
            }
        }
    }

    /** Holds nothing, a hat's body or a row; the row's places are used again and again. */
    private static final class Shelf {
        private static final int NOTHING = 0, A_HAT = 1, A_ROW = 2;

        final long[] places = new long[MOST_PLACES];
        int sort;
        int length;
        int body;
        private int holds = NOTHING;

        boolean holdsNothing() {
            return holds == NOTHING;
        }

        boolean isRow() {
            return holds == A_ROW;
        }

        boolean isRowOf(int wanted) {
            return holds == A_ROW && sort == wanted;
        }

        void holdHat(int newBody) {
            holds = newBody < 0 ? NOTHING : A_HAT;
            body = newBody;
            length = 0;
        }

        void holdRow(int newSort, int newLength) {
            holds = A_ROW;
            sort = newSort;
            length = newLength;
            Arrays.fill(places, 0);
        }

        boolean hasPlaces(int from, int n) {
            return from >= 0 && n >= 0 && (long) from + n <= length;
        }

        int refusalAt(int i) {
            if (holds == NOTHING) {
                return NOTHING_THERE;
            }
            if (holds != A_ROW) {
                return OTHER_KIND;
            }
            return hasPlaces(i, 1) ? 0 : NO_PLACE;
        }

        long get(int i) {
            return hasPlaces(i, 1) ? places[i] : 0;
        }

        void set(int i, long v) {
            if (hasPlaces(i, 1)) {
                places[i] = lowestBits(v);
            }
        }

        private long lowestBits(long v) {
            switch (sort) {
                case BYTES:
                    return (byte) v;
                case SHORTS:
                    return (short) v;
                case INTS:
                    return (int) v;
                case LONGS:
                    return v;
                default:
                    return v != 0 ? 1 : 0;
            }
        }
    }
}
