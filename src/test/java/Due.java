/** Counts answers that are not the ones due, and ends the program with 1 if there was one. */
final class Due {
    static final long NO_NUMBER = Long.MIN_VALUE;

    private int asked;
    private int wrong;

    void is(String call, long got, long want) {
        asked++;
        if (got != want) {
            wrong++;
            System.out.println(call + " answered " + got + ", due is " + want);
        }
    }

    void holds(String what, boolean so) {
        is(what, so ? 1 : 0, 1);
    }

    /** The whole text comes to the tape and becomes the law: the answer of law(). */
    static int enact(LeastPays x, String text) {
        for (int i = 0; i < text.length(); i++) {
            x.feed(text.charAt(i));
        }
        return x.law();
    }

    /** Guests with these purses who give all gifts told. */
    static LeastPays table(int[] purses, int[] gifts) {
        LeastPays x = new LeastPays();
        for (int i = 0; i < purses.length; i++) {
            x.guest(purses[i]);
            x.mend(i, 1, gifts[i]);
        }
        return x;
    }

    void end() {
        System.out.println(asked + " answers, " + wrong + " not as due");
        if (wrong != 0) {
            System.exit(1);
        }
    }
}
