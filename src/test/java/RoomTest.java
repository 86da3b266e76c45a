import com.sun.management.ThreadMXBean;
import java.lang.management.ManagementFactory;
import java.lang.reflect.Method;
import java.lang.reflect.Modifier;
import java.util.ArrayList;
import java.util.Comparator;
import java.util.List;
import java.util.Random;

/** All calls live in one room: none makes an object, and none throws, whatever it is given. */
public final class RoomTest {
    private static final Due DUE = new Due();

    public static void main(String[] args) throws ReflectiveOperationException {
        wildCalls();
        noObjectIsMade();
        DUE.end();
    }

    private static List<Method> calls() {
        List<Method> calls = new ArrayList<>();
        for (Method m : LeastPays.class.getDeclaredMethods()) {
            if (Modifier.isPublic(m.getModifiers())) {
                calls.add(m);
            }
        }
        calls.sort(Comparator.comparing(Method::getName));
        return calls;
    }

    private static int wild(Random random) {
        int[] far = {Integer.MIN_VALUE, Integer.MIN_VALUE + 1, -1000, -14, Integer.MAX_VALUE, Integer.MAX_VALUE - 1,
            60, 61, 99, 100, 120, 599, 600, 1299, 1300};
        switch (random.nextInt(8)) {
            case 0:
                return far[random.nextInt(far.length)];
            case 1:
                return random.nextInt();
            case 2:
                return random.nextInt(140) - 20;
            default:
                return random.nextInt(9) - 1;
        }
    }

    private static void wildCalls() throws ReflectiveOperationException {
        Random random = new Random(7);
        List<Method> calls = calls();
        DUE.is("calls of the face", calls.size(), 39);
        for (int run = 0; run < 400; run++) {
            LeastPays x = new LeastPays();
            x.mend(0, 6, 1 + random.nextInt(99));
            for (int call = 0; call < 511; call++) {
                Method m = calls.get(random.nextInt(calls.size()));
                Object[] with = new Object[m.getParameterCount()];
                for (int i = 0; i < with.length; i++) {
                    boolean isLong = m.getParameterTypes()[i] == long.class;
                    with[i] = isLong ? (Object) random.nextLong() : (Object) wild(random);
                }
                try {
                    m.invoke(x, with);
                } catch (java.lang.reflect.InvocationTargetException e) {
                    DUE.holds(m.getName() + " threw " + e.getCause(), false);
                }
            }
        }
    }

    private static void noObjectIsMade() {
        ThreadMXBean threads = (ThreadMXBean) ManagementFactory.getThreadMXBean();
        long id = Thread.currentThread().getId();
        LeastPays x = new LeastPays();
        dearestCalls(new LeastPays());
        threads.getThreadAllocatedBytes(id);
        long before = threads.getThreadAllocatedBytes(id);
        dearestCalls(x);
        long made = threads.getThreadAllocatedBytes(id) - before;
        DUE.holds("the dearest calls made " + made + " bytes of objects", made < 1024);
    }

    private static void dearestCalls(LeastPays x) {
        for (int i = 0; i < 6; i++) {
            x.guest(39);
            x.mend(i, 2, 5);
            x.mend(i, 3, 7);
        }
        for (int i = 0; i < 3; i++) {
            x.dish(20 + i);
        }
        x.rests(-1);
        x.turns(-1);
        x.mend(0, 6, 1);
        x.bestMean(0);
        x.agree(1, 0);
        x.ordered(0, 2);
        x.feed('b');
        x.law();
        x.thought(0, 99, 0);
        x.drawn(1, 50, 0, 0);
        x.night();
        x.image();
        x.back();
        x.body(7);
        x.act(0, 3, 1);
        x.row(0, 1, 60);
        x.fits(0);
        x.row(1, 0, 60);
        x.guests(1, 0, 6);
        x.keep(0, 0);
        x.undo();
        x.redo();
    }
}
