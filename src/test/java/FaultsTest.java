/** THE LAW by its bytes: for many beginnings each of the 256 bytes, whether a TEXT goes on with it. */
public final class FaultsTest {
    private static final Due DUE = new Due();
    private static final String NAMES = "bpnkr", DIGITS = "0123456789";
    private static final String BEGINS = NAMES + DIGITS + "(!-";
    private static final String JOINS = "+-*/%&|", COMPARES = "<=>", ENDS_LINE = ";", ASKS = "?";

    public static void main(String[] args) {
        anOperandIsDue();
        anOperandWasThere();
        numbers();
        brackets();
        sixAreOpen();
        questions();
        endsTooEarly();
        whatComesOfIt();
        linesThatCount();
        onesAndZeros();
        whatBindsMore();
        DUE.end();
    }

    /** With each byte of goesOn a TEXT goes on; with every other the fault is just there. */
    private static void next(String beginning, String goesOn) {
        int place = beginning.length();
        for (int letter = 0; letter <= 255; letter++) {
            int answer = Due.enact(new LeastPays(), beginning + (char) letter);
            boolean faulty = goesOn.indexOf(letter) < 0;
            String call = "P8 " + beginning + " and byte " + letter;
            if (faulty) {
                DUE.is(call, answer, -100 - place);
            } else {
                DUE.holds(call + " goes on", answer == 1 || answer == -100 - (place + 1));
            }
        }
    }

    private static void anOperandIsDue() {
        String[] beginnings = {"", "(", "!", "-", "b+", "b-", "b*", "b/", "b%", "b<", "b=", "b>", "b&", "b|",
            "b?", "b;", "b?b;", "b?b|", "1+(2*", "!-(", "(b)-", "b;b;b;", "1234<", "(((((", "!!!!!", "-----"};
        for (String beginning : beginnings) {
            next(beginning, BEGINS);
        }
    }

    private static void anOperandWasThere() {
        String free = JOINS + COMPARES + ENDS_LINE + ASKS;
        String[] beginnings = {"b", "p", "n", "k", "r", "!b", "-b", "!-!r", "b+p", "(b)", "-(b)", "(1)", "b&p", "b|p",
            "b<p&k", "b<p|k", "(b<p)", "b;p", "b<p;k", "b?p;k", "((((((b))))))"};
        for (String beginning : beginnings) {
            next(beginning, free);
        }
        String compared = JOINS + ENDS_LINE + ASKS;
        String[] comparedOnes = {"b<p", "b=p", "b>p", "b<p+k", "b*p=k*n", "b|p<k", "(b)<(p)", "b<p&k<n", "k;b<p"};
        for (String beginning : comparedOnes) {
            next(beginning, compared);
        }
    }

    private static void numbers() {
        String behind = JOINS + COMPARES + ENDS_LINE + ASKS;
        String[] fewDigits = {"0", "1", "12", "123", "000", "b+1", "-1", "!123", "b;7"};
        for (String beginning : fewDigits) {
            next(beginning, DIGITS + behind);
        }
        String[] fourDigits = {"1234", "0000", "9999", "b+1234", "-1234", "1;1234", "1234*5678"};
        for (String beginning : fourDigits) {
            next(beginning, behind);
        }
    }

    private static void brackets() {
        String[] open = {"(b", "((b)", "(b|p", "(b&p", "(b<p)+(k", "(b<p|k", "!(b", "b?(p", "((((((b"};
        for (String beginning : open) {
            next(beginning, JOINS + COMPARES + ")");
        }
        next("(b<p", JOINS + ")");
        next("((b<p)=k", JOINS + ")");
        next("(12", DIGITS + JOINS + COMPARES + ")");
        next("(1234", JOINS + COMPARES + ")");
    }

    private static void sixAreOpen() {
        String[] six = {"((((((", "!!!!!!", "------", "(!-(!-", "b+------", "b;((((((", "b?((((((", "((((((b-r)-(",
            "(1)+((((((", "!b|!!!!!!", "-b--(((((", "(((((b*-", "((((((b))))))+((((((", "-b*-p+(((-b+!(("};
        for (String beginning : six) {
            next(beginning, NAMES + DIGITS);
        }
        next("-b*-p+(((-b+!(", BEGINS);
        next("(((((!b+", BEGINS);
        for (char sign : "|&<=>+-*/%".toCharArray()) {
            next("((((((b" + sign, NAMES + DIGITS);
            next("(((((b" + sign + "(", NAMES + DIGITS);
            next("(((((b" + sign + "!", NAMES + DIGITS);
            next("(((((b" + sign, BEGINS);
        }
        next("(((((b)", JOINS + COMPARES + ")");
        next("(((((!b)+(", BEGINS);
    }

    private static void questions() {
        String[] asked = {"b?p", "b?(p)", "k;b?p", "b?p;k?n", "b<p?k", "b?p&k"};
        for (String beginning : asked) {
            next(beginning, JOINS + COMPARES + ENDS_LINE);
        }
        next("b?p<k", JOINS + ENDS_LINE);
        next("b?12", DIGITS + JOINS + COMPARES + ENDS_LINE);
    }

    private static void endsTooEarly() {
        String[] early = {"", "(", "!", "-", "b+", "b-", "b*", "b/", "b%", "b<", "b=", "b>", "b&", "b|", "b?", "b;",
            "b?p;", "(b", "(b+(p)", "((((((b)))))", "------", "((((((", "!(", "1234*"};
        for (String text : early) {
            DUE.is("P8 " + text + " ends too early", Due.enact(new LeastPays(), text), -100 - text.length());
        }
        String whole = "b>99?(p-1)*2/k%7;-n|!(r=4)&1234<b;0";
        for (int length = 0; length <= whole.length(); length++) {
            String text = whole.substring(0, length);
            boolean ends = length > 0 && ")0123456789bpnkr".indexOf(text.charAt(length - 1)) >= 0
                && text.chars().filter(c -> c == '(').count() == text.chars().filter(c -> c == ')').count();
            DUE.is("P8 " + text, Due.enact(new LeastPays(), text), ends ? 1 : -100 - length);
        }
    }

    private static void whatComesOfIt() {
        LeastPays x = Due.table(new int[] {99}, new int[] {0});
        DUE.is("P8 a FAULT ahead of any LAW", Due.enact(x, "7+"), -102);
        DUE.is("P20 without a text", x.given(0), 60);
        DUE.is("P7 THE TAPE is empty then", x.feed('7'), 1);
        DUE.is("P8 THE LAW", x.law(), 1);
        DUE.is("P20 by THE LAW", x.given(0), 7);
        DUE.is("P8 an empty TAPE", x.law(), -100);
        DUE.is("P20 THE LAW before it stands", x.given(0), 7);
        DUE.is("P8 a FAULT within", Due.enact(x, "8)9"), -101);
        DUE.is("P20 THE LAW before it stands", x.given(0), 7);
        DUE.is("P8 another LAW", Due.enact(x, "8"), 1);
        DUE.is("P20 it took its place", x.given(0), 8);
        DUE.is("P29 a LAW is no CHANGE", x.undo(), LeastPays.STATE);
    }

    private static void gives(String text, int want) {
        LeastPays x = Due.table(new int[] {99, 98}, new int[] {0, 0});
        DUE.is("P8 " + text, Due.enact(x, text), 1);
        DUE.is("P20 by " + text, x.given(1), want);
    }

    private static void linesThatCount() {
        gives("5", 5);
        gives("5;6", 5);
        gives("1?5;6", 5);
        gives("-1?5;6", 5);
        gives("8192*512*512?5;6", 5);
        gives("0?5;6", 6);
        gives("0?5;6;7", 6);
        gives("0?5;0?6;7", 7);
        gives("0?5;2?6;7", 6);
        gives("0?5", 0);
        gives("0?5;0?6;0?7", 0);
        gives("1-1?5;3/4?6;7", 7);
    }

    private static void onesAndZeros() {
        gives("5|3", 1);
        gives("0|3", 1);
        gives("5|0", 1);
        gives("0|0", 0);
        gives("4&3", 1);
        gives("0&3", 0);
        gives("5&0", 0);
        gives("-4&-3", 1);
        gives("-4|0", 1);
        gives("2<3", 1);
        gives("3<3", 0);
        gives("3<2", 0);
        gives("-3<2", 1);
        gives("3=3", 1);
        gives("3=2", 0);
        gives("2>3", 0);
        gives("3>3", 0);
        gives("3>2", 1);
        gives("2>-3", 1);
        gives("!0", 1);
        gives("!1", 0);
        gives("!7", 0);
        gives("!-1", 0);
        gives("!!9", 1);
        gives("-!0+2", 1);
        gives("!-0", 1);
        gives("0000", 0);
        gives("0010", 10);
        gives("007", 7);
    }

    private static void whatBindsMore() {
        gives("2+3*4", 14);
        gives("2*3+4", 10);
        gives("50-20-5", 25);
        gives("50-20+5", 35);
        gives("90/9/2", 5);
        gives("7*9/2", 31);
        gives("7/2*9", 27);
        gives("29%10*2", 18);
        gives("2*29%10", 8);
        gives("-3*-4", 12);
        gives("20--4", 24);
        gives("1+2<4", 1);
        gives("1<2+4", 1);
        gives("0=0&0", 0);
        gives("1|1&0", 1);
        gives("0&0|1", 1);
        gives("0&(0|1)", 0);
        gives("1|0=5", 1);
        gives("!0+4", 5);
        gives("!(0+4)", 0);
        gives("!3*9", 0);
        gives("-(2-9)", 7);
        gives("9-(4-(2-1))", 6);
        gives("p-n", 97);
        gives("b+k", 62);
    }
}
