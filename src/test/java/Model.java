import java.lang.reflect.Array;
import java.math.BigInteger;
import java.util.ArrayDeque;
import java.util.ArrayList;
import java.util.Arrays;
import java.util.Comparator;
import java.util.Deque;
import java.util.List;
import java.util.stream.IntStream;

/** The document once more, written apart with the whole Java library, slow and plain. */
final class Model {
    private static final int BAD = -1, NOT = -2, FULL = -3, STATE = -5, VOID = -2000000000;
    private static final long NONE = Long.MIN_VALUE;

    private static final class Person {
        int[] told = new int[4];
        int paid;
        int guess = -1;
        int[] joy = new int[3];
    }

    private record Change(int number, int what, int was, int became) { }

    private record Image(int[] gifts, int[] paid, int nights, int chest) { }

    private final List<Person> people = new ArrayList<>();
    private final int[] table = {60, 0, 10};
    private final List<Integer> dishes = new ArrayList<>();
    private final StringBuilder tape = new StringBuilder();
    private final Deque<Change> done = new ArrayDeque<>();
    private final Deque<Change> undone = new ArrayDeque<>();
    private final List<Way> ways = new ArrayList<>();
    private final Object[] shelves = new Object[6];
    private List<Integer> ran = new ArrayList<>();
    private String law;
    private Image image;
    private int nights;
    private int chest;

    // ---- costs

    /** Besides, given back, and (last of all) what goes to the chest. */
    private static int[][] reckon(int[] gifts, int bill, int rule) {
        int k = gifts.length;
        int[] besides = new int[k];
        int[] backs = new int[k];
        int hat = IntStream.of(gifts).sum();
        int lack = Math.max(0, bill - hat);
        int over = Math.max(0, hat - bill);
        int toChest = over;
        List<Integer> order = new ArrayList<>();
        for (int i = 0; i < k; i++) {
            order.add(i);
        }
        order.sort(Comparator.<Integer>comparingInt(i -> gifts[i]).thenComparingInt(i -> i));
        if (k > 0) {
            int first = order.get(0);
            if (rule == 0) {
                int[] likes = order.stream().filter(i -> gifts[i] == gifts[first]).mapToInt(i -> i).toArray();
                for (int c = 0; c < lack; c++) {
                    besides[likes[c % likes.length]]++;
                }
            } else if (rule == 2 && k > 1) {
                besides[first] = (lack + 1) / 2;
                besides[order.get(1)] = lack / 2;
            } else {
                besides[first] = lack;
            }
            if (rule == 3) {
                besides[first] += gifts[first];
                toChest += gifts[first];
            }
            if (rule == 4) {
                int top = IntStream.of(gifts).max().getAsInt();
                int most = IntStream.range(0, k).filter(i -> gifts[i] == top).findFirst().getAsInt();
                backs[most] = Math.min(over, top);
                toChest -= backs[most];
            }
        }
        return new int[][] {besides, backs, {toChest}};
    }

    private static int[] costs(int[] gifts, int bill, int rule) {
        int[][] r = reckon(gifts, bill, rule);
        return IntStream.range(0, gifts.length).map(i -> gifts[i] + r[0][i] - r[1][i]).toArray();
    }

    private int[] gifts() {
        return people.stream().mapToInt(p -> p.told[1]).toArray();
    }

    private int costWith(int[] gifts, int guest, int v) {
        int[] g = gifts.clone();
        g[guest] = v;
        return costs(g, table[0], table[1])[guest];
    }

    private int[] sums(int guest) {
        return IntStream.rangeClosed(0, people.get(guest).told[0]).filter(v -> v % table[2] == 0).toArray();
    }

    private boolean is(int guest) {
        return guest >= 0 && guest < people.size();
    }

    // ---- promises 2 to 8

    int guest(int purse) {
        if (purse < 0 || purse > 99) {
            return BAD;
        }
        if (people.size() == 6) {
            return FULL;
        }
        Person p = new Person();
        p.told[0] = purse;
        people.add(p);
        return people.size() - 1;
    }

    int guests(int shelf, int i, int n) {
        if (shelf < 0 || shelf > 5 || n < 1 || n > 6) {
            return BAD;
        }
        if (shelves[shelf] != null && !(shelves[shelf] instanceof byte[])) {
            return -12;
        }
        int came = 0;
        try {
            byte[] row = (byte[]) shelves[shelf];
            for (int c = 0; c < n; c++) {
                int purse = row[i + 2 * c];
                int gift = row[i + 2 * c + 1];
                if (purse < 0 || purse > 99 || gift < 0 || gift > purse || people.size() == 6) {
                    break;
                }
                guest(purse);
                people.get(people.size() - 1).told[1] = gift;
                came++;
            }
        } catch (NullPointerException | ArrayIndexOutOfBoundsException end) {
            return came;
        }
        return came;
    }

    private int ask(int number, int what) {
        return what < 4 ? people.get(number).told[what] : table[what - 4];
    }

    private void tell(int number, int what, int v) {
        if (what < 4) {
            people.get(number).told[what] = v;
        } else {
            table[what - 4] = v;
        }
    }

    int mend(int number, int what, int v) {
        if (what < 0 || what > 6 || (what < 4 ? !is(number) : number != 0)) {
            return BAD;
        }
        int purse = what < 4 ? people.get(number).told[0] : 0;
        int[] most = {99, purse, 12, purse, 599, 4, 99};
        if (v < (what == 6 ? 1 : 0) || v > most[what]) {
            return BAD;
        }
        int was = ask(number, what);
        if (was != v) {
            tell(number, what, v);
            undone.clear();
            done.push(new Change(number, what, was, v));
            if (done.size() > 40) {
                done.removeLast();
            }
        }
        return was;
    }

    int of(int number, int what) {
        if (what >= 10 && what <= 17 && number == 0) {
            int hat = IntStream.of(gifts()).sum();
            return new int[] {table[0], table[1], table[2], hat, Math.max(0, table[0] - hat),
                Math.max(0, hat - table[0]), chest, nights}[what - 10];
        }
        if (what < 0 || what > 6 || !is(number)) {
            return VOID;
        }
        Person p = people.get(number);
        if (what < 4) {
            return p.told[what];
        }
        return what == 4 ? costs(gifts(), table[0], table[1])[number] : what == 5 ? p.paid : p.guess;
    }

    int think(int guest, int b) {
        if (!is(guest) || b < -1 || b > 599) {
            return VOID;
        }
        int was = people.get(guest).guess;
        people.get(guest).guess = b;
        return was;
    }

    int feed(int letter) {
        if (letter < 0 || letter > 255) {
            return BAD;
        }
        if (tape.length() == 120) {
            return FULL;
        }
        tape.append((char) letter);
        return tape.length();
    }

    int law() {
        String text = tape.toString();
        tape.setLength(0);
        int fault = fault(text);
        if (fault >= 0) {
            return -100 - fault;
        }
        law = text;
        return 1;
    }

    /** By states alone: a place wants an operand or has one; the stack tells what is open. */
    private static int fault(String t) {
        Deque<Character> open = new ArrayDeque<>();
        Deque<Boolean> compared = new ArrayDeque<>();
        compared.push(false);
        boolean asked = false;
        boolean has = false;
        int digits = 0;
        for (int i = 0; i < t.length(); i++) {
            char c = t.charAt(i);
            if (!has) {
                if ("(!-".indexOf(c) >= 0 && open.size() < 6) {
                    open.push(c);
                    if (c == '(') {
                        compared.push(false);
                    }
                    continue;
                }
                if ("bpnkr0123456789".indexOf(c) < 0) {
                    return i;
                }
                digits = Character.isDigit(c) ? 1 : 0;
                has = true;
                while (!open.isEmpty() && open.peek() != '(') {
                    open.pop();
                }
                continue;
            }
            if (c >= '0' && c <= '9') {
                if (digits == 0 || digits == 4) {
                    return i;
                }
                digits++;
                continue;
            }
            digits = 0;
            if (c == ')') {
                if (open.isEmpty()) {
                    return i;
                }
                open.pop();
                compared.pop();
                while (!open.isEmpty() && open.peek() != '(') {
                    open.pop();
                }
                continue;
            }
            has = false;
            if ("+-*/%".indexOf(c) >= 0) {
                continue;
            }
            if ("<=>".indexOf(c) >= 0 && !compared.peek()) {
                compared.pop();
                compared.push(true);
            } else if (c == '|' || c == '&') {
                compared.pop();
                compared.push(false);
            } else if (open.isEmpty() && (c == ';' || (c == '?' && !asked))) {
                asked = c == '?';
                compared.pop();
                compared.push(false);
            } else {
                return i;
            }
        }
        return has && open.isEmpty() ? -1 : t.length();
    }

    // ---- the law, split at its weakest sign outside of brackets

    private int lawGives(int guest, int b) {
        int told = 0;
        if (law == null) {
            told = b / people.size();
        } else {
            for (String line : law.split(";")) {
                String[] parts = line.split("\\?");
                if (parts.length == 1 || worth(parts[0], guest, b) != 0) {
                    told = worth(parts[parts.length - 1], guest, b);
                    break;
                }
            }
        }
        return Math.max(0, Math.min(told, people.get(guest).told[0]));
    }

    /** The last place of one of these signs as a sign between two, outside of brackets; -1. */
    private static int lastSign(String e, String signs) {
        int depth = 0;
        int at = -1;
        for (int i = 0; i < e.length(); i++) {
            char c = e.charAt(i);
            depth += c == '(' ? 1 : c == ')' ? -1 : 0;
            boolean between = i > 0 && (Character.isLetterOrDigit(e.charAt(i - 1)) || e.charAt(i - 1) == ')');
            if (depth == 0 && between && signs.indexOf(c) >= 0) {
                at = i;
            }
        }
        return at;
    }

    private int worth(String e, int guest, int b) {
        for (String signs : new String[] {"|", "&", "<=>", "+-", "*/%"}) {
            int at = lastSign(e, signs);
            if (at >= 0) {
                return join(e.charAt(at), worth(e.substring(0, at), guest, b), worth(e.substring(at + 1), guest, b));
            }
        }
        char c = e.charAt(0);
        switch (c) {
            case '(': return worth(e.substring(1, e.length() - 1), guest, b);
            case '!': return worth(e.substring(1), guest, b) == 0 ? 1 : 0;
            case '-': return -worth(e.substring(1), guest, b);
            case 'b': return b;
            case 'p': return people.get(guest).told[0];
            case 'n': return guest;
            case 'k': return people.size();
            case 'r': return table[1];
            default: return Integer.parseInt(e);
        }
    }

    private static int join(char sign, int l, int r) {
        switch (sign) {
            case '|': return (l != 0 ? 1 : 0) | (r != 0 ? 1 : 0);
            case '&': return (l != 0 ? 1 : 0) & (r != 0 ? 1 : 0);
            case '<': return l < r ? 1 : 0;
            case '=': return l == r ? 1 : 0;
            case '>': return l > r ? 1 : 0;
            case '+': return l + r;
            case '-': return l - r;
            case '*': return l * r;
            case '/': return r == 0 ? 0 : l / r;
            default: return r == 0 ? 0 : l % r;
        }
    }

    // ---- promises 9 to 15

    private int bestSum(int[] gifts, int guest) {
        int best = 0;
        for (int v : sums(guest)) {
            best = costWith(gifts, guest, v) < costWith(gifts, guest, best) ? v : best;
        }
        return best;
    }

    int putIn(int guest, int what) {
        if (!is(guest) || what < 0 || what > 1) {
            return VOID;
        }
        int best = bestSum(gifts(), guest);
        return what == 0 ? best : costWith(gifts(), guest, best);
    }

    /** Over twelve to the number of others. */
    private BigInteger total(int[] gifts, int at, int guest, int v) {
        if (at == gifts.length) {
            return BigInteger.valueOf(costWith(gifts, guest, v));
        }
        if (at == guest) {
            return total(gifts, at + 1, guest, v);
        }
        Person p = people.get(at);
        int[] other = gifts.clone();
        other[at] = p.told[3];
        return total(gifts, at + 1, guest, v).multiply(BigInteger.valueOf(12 - p.told[2]))
            .add(total(other, at + 1, guest, v).multiply(BigInteger.valueOf(p.told[2])));
    }

    private static long part(BigInteger above, BigInteger below, int part) {
        BigInteger g = above.gcd(below);
        return (part == 0 ? above : below).divide(g).longValueExact();
    }

    long mean(int guest, int v, int part) {
        if (!is(guest) || v < 0 || v > people.get(guest).told[0] || part < 0 || part > 1) {
            return NONE;
        }
        return part(total(gifts(), 0, guest, v), BigInteger.valueOf(12).pow(people.size() - 1), part);
    }

    int bestMean(int guest) {
        if (!is(guest)) {
            return BAD;
        }
        int best = -1;
        BigInteger least = null;
        for (int v : sums(guest)) {
            BigInteger t = total(gifts(), 0, guest, v);
            if (least == null || t.compareTo(least) < 0) {
                least = t;
                best = v;
            }
        }
        return best;
    }

    private int restless(int[] gifts) {
        for (int i = 0; i < gifts.length; i++) {
            if (costWith(gifts, i, bestSum(gifts, i)) < costWith(gifts, i, gifts[i])) {
                return i;
            }
        }
        return NOT;
    }

    int rest(int what) {
        if (what < 0 || what > 1) {
            return BAD;
        }
        int r = restless(gifts());
        return what == 1 ? r : r == NOT ? 1 : 0;
    }

    private void all(int[] gifts, int at, List<int[]> found) {
        if (at == gifts.length) {
            if (restless(gifts) == NOT) {
                found.add(gifts.clone());
            }
            return;
        }
        for (int v : sums(at)) {
            gifts[at] = v;
            all(gifts, at + 1, found);
        }
    }

    int rests(int guest) {
        if (guest != -1 && !is(guest)) {
            return BAD;
        }
        BigInteger number = BigInteger.ONE;
        for (int i = 0; i < people.size(); i++) {
            number = number.multiply(BigInteger.valueOf(sums(i).length));
        }
        if (number.compareTo(BigInteger.valueOf(4096)) > 0) {
            return STATE;
        }
        List<int[]> found = new ArrayList<>();
        all(new int[people.size()], 0, found);
        return guest == -1 ? found.size() : found.isEmpty() ? NOT : found.get(0)[guest];
    }

    int turns(int guest) {
        if (guest != -1 && !is(guest)) {
            return BAD;
        }
        int[] g = gifts();
        int changes = 0;
        while (changes < 60 && restless(g) != NOT) {
            for (int i = 0; i < g.length && changes < 60; i++) {
                int best = bestSum(g, i);
                if (costWith(g, i, best) < costWith(g, i, g[i])) {
                    g[i] = best;
                    changes++;
                }
            }
        }
        return guest >= 0 ? g[guest] : restless(g) == NOT ? changes : NOT;
    }

    int agree(int pq, int what) {
        int p = Math.floorDiv(pq, 10);
        int q = Math.floorMod(pq, 10);
        if (!is(p) || !is(q) || p >= q || what < 0 || what > 3) {
            return VOID;
        }
        int[] best = null;
        for (int s : sums(p)) {
            for (int t : sums(q)) {
                int[] g = gifts();
                g[p] = s;
                g[q] = t;
                int[] c = costs(g, table[0], table[1]);
                if (best == null || c[p] + c[q] < best[0]) {
                    int[] b = reckon(g, table[0], table[1])[0];
                    int victim = IntStream.range(0, b.length).filter(i -> i != p && i != q && b[i] > 0)
                        .findFirst().orElse(NOT);
                    best = new int[] {c[p] + c[q], s, t, victim};
                }
            }
        }
        return best[what];
    }

    // ---- promises 16 to 21

    int dish(int price) {
        if (price < 0 || price > 99) {
            return BAD;
        }
        if (dishes.size() == 3) {
            return FULL;
        }
        dishes.add(price);
        return dishes.size() - 1;
    }

    int joy(int gd, int v) {
        int g = Math.floorDiv(gd, 10);
        int d = Math.floorMod(gd, 10);
        if (!is(g) || d >= dishes.size() || v < 0 || v > 99) {
            return BAD;
        }
        int was = people.get(g).joy[d];
        people.get(g).joy[d] = v;
        return was;
    }

    private int worthOf(int[] orders, int guest) {
        int bill = IntStream.of(orders).map(d -> d < 0 ? 0 : dishes.get(d)).sum();
        int joy = orders[guest] < 0 ? 0 : people.get(guest).joy[orders[guest]];
        return joy - costs(gifts(), bill, table[1])[guest];
    }

    private int[] play(int[] orders, int guest) {
        if (guest == orders.length) {
            return orders.clone();
        }
        int[] best = null;
        for (int d = -1; d < dishes.size(); d++) {
            int[] tried = orders.clone();
            tried[guest] = d;
            int[] end = play(tried, guest + 1);
            if (best == null || worthOf(end, guest) > worthOf(best, guest)) {
                best = end;
            }
        }
        return best;
    }

    int ordered(int guest, int what) {
        if (!is(guest) || what < 0 || what > 2 || (what == 2 && guest != 0)) {
            return VOID;
        }
        int[] orders = play(new int[people.size()], 0);
        if (what == 2) {
            return IntStream.of(orders).map(d -> d < 0 ? 0 : dishes.get(d)).sum();
        }
        return what == 1 ? worthOf(orders, guest) : orders[guest] < 0 ? NOT : orders[guest];
    }

    int thought(int guest, int v, int what) {
        if (!is(guest) || v < 0 || v > 99 || what < 0 || what > 1) {
            return BAD;
        }
        int[] all = IntStream.range(0, 600).filter(b -> lawGives(guest, b) == v).toArray();
        return all.length == 0 ? NOT : all[what == 0 ? 0 : all.length - 1];
    }

    int given(int guest) {
        if (guest != -1 && !is(guest)) {
            return BAD;
        }
        int[] each = IntStream.range(0, people.size())
            .map(i -> lawGives(i, people.get(i).guess < 0 ? table[0] : people.get(i).guess)).toArray();
        return guest == -1 ? IntStream.of(each).sum() : each[guest];
    }

    long stranger(int guest, int xg, int part) {
        if (!is(guest) || xg < 0 || xg > 1299 || part < 0 || part > 1) {
            return NONE;
        }
        int x = xg / 100;
        int[] more = Arrays.copyOf(gifts(), people.size() + 1);
        more[people.size()] = xg % 100;
        long above = (long) x * costs(more, table[0], table[1])[guest]
            + (12L - x) * costs(gifts(), table[0], table[1])[guest];
        return part(BigInteger.valueOf(above), BigInteger.valueOf(12), part);
    }

    // ---- promises 22 to 30

    int night() {
        if (people.isEmpty()) {
            return STATE;
        }
        int[] c = costs(gifts(), table[0], table[1]);
        for (int i = 0; i < c.length; i++) {
            people.get(i).paid += c[i];
        }
        chest += reckon(gifts(), table[0], table[1])[2][0];
        nights++;
        return IntStream.of(c).sum();
    }

    int drawn(int seed, int n, int guest, int what) {
        if (n < 1 || n > 50 || !is(guest) || what < 0 || what > 1) {
            return VOID;
        }
        int z = seed;
        int[] sum = new int[2];
        for (int t = 0; t < n; t++) {
            int[] g = gifts();
            for (int i = 0; i < g.length; i++) {
                z = z * 1103515245 + 12345;
                g[i] = (z >>> 8) % 12 < people.get(i).told[2] ? people.get(i).told[3] : g[i];
            }
            sum[0] += reckon(g, table[0], table[1])[0][guest] > 0 ? 1 : 0;
            sum[1] += costs(g, table[0], table[1])[guest];
        }
        return sum[what];
    }

    private int judged(short[] told, int rule) {
        int[] c = costs(gifts(), table[0], rule);
        return IntStream.range(0, Math.min(c.length, told.length)).filter(i -> told[i] != c[i]).findFirst().orElse(NOT);
    }

    int judge(int shelf) {
        if (shelf < 0 || shelf > 5) {
            return BAD;
        }
        if (shelves[shelf] == null) {
            return -11;
        }
        return shelves[shelf] instanceof short[] told ? judged(told, table[1]) : -12;
    }

    int fits(int shelf) {
        int first = judge(shelf);
        if (first == BAD || first < -10) {
            return first;
        }
        return IntStream.range(0, 5).filter(r -> judged((short[]) shelves[shelf], r) == NOT).map(r -> 1 << r).sum();
    }

    int fair(int what) {
        if (what < 0 || what > 1) {
            return VOID;
        }
        if (people.isEmpty()) {
            return STATE;
        }
        int[] worst = IntStream.range(0, 5)
            .map(r -> IntStream.of(costs(gifts(), table[0], r)).max().getAsInt()).toArray();
        int least = IntStream.of(worst).min().getAsInt();
        return what == 1 ? least : IntStream.range(0, 5).filter(r -> worst[r] == least).findFirst().getAsInt();
    }

    int image() {
        image = new Image(gifts(), people.stream().mapToInt(p -> p.paid).toArray(), nights, chest);
        return nights;
    }

    int back() {
        if (image == null) {
            return STATE;
        }
        for (int i = 0; i < people.size(); i++) {
            boolean was = i < image.gifts.length;
            people.get(i).paid = was ? image.paid[i] : 0;
            people.get(i).told[1] = was ? image.gifts[i] : people.get(i).told[1];
        }
        nights = image.nights;
        chest = image.chest;
        return nights;
    }

    int undo() {
        if (done.isEmpty()) {
            return STATE;
        }
        Change c = done.pop();
        tell(c.number, c.what, c.was);
        undone.push(c);
        return done.size();
    }

    int redo() {
        if (undone.isEmpty()) {
            return STATE;
        }
        Change c = undone.pop();
        tell(c.number, c.what, c.became);
        done.push(c);
        return undone.size();
    }

    // ---- promises 31 to 40: the kinds as classes of Java itself

    private interface Gives {
        int n();

        void ran(int body);

        default int gives(int x) {
            ran(1);
            return x + n();
        }
    }

    private interface Tells {
        int owes(int x);

        int lacks(int x);

        void ran(int body);

        default int tells(int x) {
            ran(2);
            return owes(x) - lacks(1);
        }
    }

    private static class Way implements Gives, Tells {
        int n;
        int kind;
        List<Integer> ran;

        public int n() {
            return n;
        }

        public void ran(int body) {
            ran.add(body);
        }

        public int owes(int x) {
            ran(10);
            return gives(x) * 2;
        }

        public int lacks(int x) {
            ran(11);
            return x ^ n;
        }
    }

    private static class Full extends Way {
        @Override public int gives(int x) {
            ran(20);
            return super.gives(x) + 3;
        }
    }

    private static class Lean extends Way {
        @Override public int owes(int x) {
            ran(30);
            return -super.owes(x);
        }
    }

    private static class Torn extends Lean {
        @Override public int lacks(int x) {
            ran(40);
            return super.lacks(x) * 3;
        }

        @Override public int owes(int x) {
            ran(41);
            return super.owes(x + 1);
        }
    }

    private static class Tall extends Full {
        @Override public int lacks(int x) {
            ran(50);
            return super.lacks(x) - gives(2);
        }
    }

    private static final class Empty extends Torn {
        @Override public int tells(int x) {
            ran(60);
            return super.tells(x) ^ 5;
        }
    }

    private static final class Round extends Way {
        @Override public int gives(int x) {
            ran(70);
            return super.gives(x) * 2;
        }
    }

    private static final class Old extends Tall {
        @Override public int owes(int x) {
            ran(80);
            return super.owes(x) + lacks(2);
        }

        @Override public int tells(int x) {
            ran(81);
            return super.tells(x) - 1;
        }
    }

    private static final List<Class<?>> KINDS = List.of(Way.class, Full.class, Lean.class, Torn.class,
        Tall.class, Empty.class, Round.class, Old.class);

    private static Way make(int kind) {
        switch (kind) {
            case 0: return new Way();
            case 1: return new Full();
            case 2: return new Lean();
            case 3: return new Torn();
            case 4: return new Tall();
            case 5: return new Empty();
            case 6: return new Round();
            default: return new Old();
        }
    }

    int body(int kind) {
        if (kind < 0 || kind > 7) {
            return BAD;
        }
        if (ways.size() == 50) {
            return FULL;
        }
        Way way = make(kind);
        way.kind = kind;
        way.n = ways.size();
        ways.add(way);
        return way.n;
    }

    int act(int body, int act, int x) {
        ran = new ArrayList<>();
        if (body < 0 || body >= ways.size() || act < 0 || act > 3) {
            return 0;
        }
        Way way = ways.get(body);
        way.ran = ran;
        return act == 0 ? way.gives(x) : act == 1 ? way.owes(x) : act == 2 ? way.lacks(x) : way.tells(x);
    }

    int trace(int i) {
        return i >= 0 && i < Math.min(24, ran.size()) ? ran.get(i) : BAD;
    }

    int keep(int shelf, int body) {
        if (shelf < 0 || shelf > 5 || body < -1 || body >= ways.size()) {
            return BAD;
        }
        shelves[shelf] = body == -1 ? null : ways.get(body);
        return 1;
    }

    int row(int shelf, int sort, int n) {
        if (shelf < 0 || shelf > 5 || sort < 0 || sort > 4 || n > 60) {
            return BAD;
        }
        List<Class<?>> sorts = List.of(byte.class, short.class, int.class, long.class, boolean.class);
        try {
            shelves[shelf] = Array.newInstance(sorts.get(sort), n);
        } catch (NegativeArraySizeException e) {
            return -14;
        }
        return 1;
    }

    int put(int shelf, int i, long v) {
        if (shelf < 0 || shelf > 5) {
            return BAD;
        }
        Object row = shelves[shelf];
        try {
            if (row instanceof byte[] r) {
                r[i] = (byte) v;
            } else if (row instanceof short[] r) {
                r[i] = (short) v;
            } else if (row instanceof int[] r) {
                r[i] = (int) v;
            } else if (row instanceof long[] r) {
                r[i] = v;
            } else if (row instanceof boolean[] r) {
                r[i] = v != 0;
            } else {
                return row == null ? -11 : -12;
            }
        } catch (ArrayIndexOutOfBoundsException e) {
            return -13;
        }
        return 1;
    }

    long element(int shelf, int i) {
        if (shelf < 0 || shelf > 5 || shelves[shelf] == null || shelves[shelf] instanceof Way
                || i < 0 || i >= Array.getLength(shelves[shelf])) {
            return NONE;
        }
        return shelves[shelf] instanceof boolean[] r ? (r[i] ? 1 : 0) : Array.getLong(shelves[shelf], i);
    }

    @SuppressWarnings("SuspiciousSystemArraycopy")
    int shift(int shelf, int i, int other, int j, int n) {
        if (shelf < 0 || shelf > 5 || other < 0 || other > 5) {
            return BAD;
        }
        try {
            System.arraycopy(shelves[shelf], i, shelves[other], j, n);
        } catch (NullPointerException e) {
            return -11;
        } catch (ArrayStoreException e) {
            return -12;
        } catch (IndexOutOfBoundsException e) {
            return -13;
        }
        return n;
    }

    int taken(int shelf, int k) {
        if (shelf < 0 || shelf > 5 || k < 0 || k > 7) {
            return BAD;
        }
        if (shelves[shelf] == null) {
            return -11;
        }
        return KINDS.get(k).isInstance(shelves[shelf]) ? ((Way) shelves[shelf]).kind : -12;
    }

    int count(int what) {
        int[] all = {people.size(), dishes.size(), tape.length(), done.size(), ways.size(), ran.size()};
        return what < 0 || what > 5 ? BAD : all[what];
    }
}
