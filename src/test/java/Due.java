import java.util.function.Supplier;

/** Counts answers that are not the ones due, and ends the program with 1 if there was one. */
final class Due {
    static final long NO_NUMBER = Long.MIN_VALUE;

    /** A call of which one number is left open. */
    interface Call {
        long with(LeastPays x, int v);
    }

    private int asked;
    private int wrong;

    void is(String call, long got, long want) {
        asked++;
        if (got != want) {
            wrong++;
            System.out.println(call + " answered " + got + ", due is " + want);
        }
    }

    void holds(String what, boolean so) {
        is(what, so ? 1 : 0, 1);
    }

    /** Asks at both ends of a told range, beside them and far off, each on an object of its own. */
    void range(String what, Supplier<LeastPays> made, int least, int most, long refusal, Call call) {
        int[] within = {least, most};
        for (int v : within) {
            holds(what + ": " + v + " is within " + least + " .. " + most, call.with(made.get(), v) != refusal);
        }
        long[] beside = {least - 1L, most + 1L, least - 256L, most + 256L, Integer.MIN_VALUE, Integer.MAX_VALUE};
        for (long v : beside) {
            is(what + ": " + v + " is beside " + least + " .. " + most, call.with(made.get(), (int) v), refusal);
        }
    }

    /** The whole text comes to the tape and becomes the law: the answer of law(). */
    static int enact(LeastPays x, String text) {
        for (int i = 0; i < text.length(); i++) {
            x.feed(text.charAt(i));
        }
        return x.law();
    }

    /** Guests with these purses who give all gifts told. */
    static LeastPays table(int[] purses, int[] gifts) {
        LeastPays x = new LeastPays();
        for (int i = 0; i < purses.length; i++) {
            x.guest(purses[i]);
            x.mend(i, 1, gifts[i]);
        }
        return x;
    }

    void end() {
        System.out.println(asked + " answers, " + wrong + " not as due");
        if (wrong != 0) {
            System.exit(1);
        }
    }
}
