/** Terms 2: SUMS, chances, rests, turns and two who agree where they turn: likes, ends, 4,096 and 60. */
public final class EdgesOfSumsTest {
    private static final Due DUE = new Due();

    public static void main(String[] args) {
        sums();
        likeSums();
        othersAreTold();
        chancesThatAreNone();
        eachOfTheOthersByItself();
        lowestTerms();
        bestMeans();
        bestMeansByACoin();
        eachByItsOwnPurse();
        restsOfGifts();
        theFirstWho();
        waysBySums();
        fourThousandAndNinetySix();
        theFirstRest();
        turnsTillNobody();
        sixtyChanges();
        likeAgreements();
        victims();
        DUE.end();
    }

    private static LeastPays table(int bill, int rule, int step, int purse, int... gifts) {
        LeastPays x = new LeastPays();
        for (int i = 0; i < gifts.length; i++) {
            x.guest(purse);
            x.mend(i, 1, gifts[i]);
        }
        x.mend(0, 4, bill);
        x.mend(0, 5, rule);
        x.mend(0, 6, step);
        return x;
    }

    private static void putIn(String what, LeastPays x, int guest, int sum, int cost) {
        DUE.is("P9 " + what + ": the SUM", x.putIn(guest, 0), sum);
        DUE.is("P9 " + what + ": its COST", x.putIn(guest, 1), cost);
    }

    /** By FIRST guest 1 has to give more than 0 and 19 to be free of a bill of 99. */
    private static void sums() {
        putIn("the least SUM that is enough", table(99, 1, 10, 45, 19, 0), 1, 20, 20);
        putIn("a SUM as great as the PURSE", table(99, 1, 20, 20, 19, 0), 1, 20, 20);
        putIn("a SUM above the PURSE by one", table(99, 1, 21, 20, 19, 0), 1, 0, 80);
        putIn("2 STEPS as great as the PURSE", table(99, 1, 10, 20, 19, 0), 1, 20, 20);
        putIn("2 STEPS above the PURSE by one", table(99, 1, 10, 19, 19, 0), 1, 0, 80);
        putIn("STEP 1", table(99, 1, 1, 45, 19, 0), 1, 19, 19);
        putIn("STEP 99, PURSE 99", table(300, 1, 99, 99, 19, 0), 1, 99, 99);
        putIn("STEP 99, PURSE 98", table(300, 1, 99, 98, 19, 0), 1, 0, 281);
        putIn("PURSE 0", table(60, 1, 1, 0, 0, 0), 0, 0, 60);
    }

    private static void likeSums() {
        putIn("all SUMS are alike: the least", table(40, 1, 10, 40, 0), 0, 0, 40);
        putIn("nothing lacks: the least", table(30, 0, 10, 50, 30, 30), 1, 0, 0);
        putIn("of 10 and 20 the least", table(20, 4, 10, 20, 0, 0), 1, 0, 0);
    }

    private static void othersAreTold() {
        LeastPays x = table(90, 1, 10, 50, 7, 33, 25);
        x.mend(2, 2, 12);
        x.mend(2, 3, 50);
        putIn("others by GIFTS, not by ODDS", x, 0, 30, 30);
        DUE.is("P9 GIFTS stay", x.of(0, 1), 7);
        DUE.is("P9 it is no CHANGE", x.count(3), 7);
    }

    private static void mean(String what, LeastPays x, int guest, int v, long above, long below) {
        DUE.is("P10 " + what + ": above the line", x.mean(guest, v, 0), above);
        DUE.is("P10 " + what + ": below the line", x.mean(guest, v, 1), below);
    }

    private static void chancesThatAreNone() {
        LeastPays x = table(60, 1, 10, 50, 0, 30);
        x.mend(0, 3, 50);
        x.mend(1, 3, 10);
        mean("ODDS 0: never ELSE", x, 0, 20, 30, 1);
        x.mend(1, 2, 12);
        mean("ODDS 12: always ELSE", x, 0, 20, 20, 1);
        mean("the other's GIFT is as ELSE", x, 0, 10, 50, 1);
        x.mend(0, 2, 12);
        mean("its own ODDS play no part", x, 0, 10, 50, 1);
        mean("its own GIFT plays none", x, 0, 0, 50, 1);
        mean("any sum, no SUM", x, 0, 7, 50, 1);
        mean("the PURSE", x, 0, 50, 50, 1);
        x.mend(1, 2, 1);
        x.mend(1, 0, 5);
        // By 30 in eleven of twelve nights guest 0 with 20 pays 30, by 10 in one only its 20.
        mean("an ELSE above a PURSE stands", x, 0, 20, 175, 6);
        mean("one guest alone", table(60, 2, 10, 50, 0), 0, 50, 60, 1);
    }

    /** By FIRST each of three others has chances of its own, whatever its number. */
    private static void eachOfTheOthersByItself() {
        int[] odds = {3, 4, 6};
        for (int guest = 0; guest <= 3; guest++) {
            LeastPays x = table(99, 1, 10, 50, 0, 0, 0, 0);
            int others = 0;
            for (int i = 0; i <= 3; i++) {
                x.mend(i, 1, 20);
                x.mend(i, 3, 30);
                if (i != guest) {
                    x.mend(i, 2, odds[others]);
                    others++;
                }
            }
            // It gives 0 and pays 99 less three times 20 and 10 more by 3, 4 and 6 of twelve.
            mean("each by itself, without " + guest, x, guest, 0, 169, 6);
        }
    }

    private static void lowestTerms() {
        LeastPays x = table(27, 1, 10, 50, 0, 5, 5, 5, 5, 5);
        for (int i = 1; i <= 5; i++) {
            x.mend(i, 2, 1);
        }
        // Giving 1, guest 0 is least if all five give their 5, in 11 ** 5 of 12 ** 5 nights.
        mean("twelve ** 5 below", x, 0, 1, 248832 + 161051, 248832);
        x.mend(0, 4, 0);
        mean("0 by 1", x, 0, 0, 0, 1);
        mean("whole, by 1", x, 0, 1, 1, 1);
        x = table(60, 1, 10, 50, 0, 20, 20);
        x.mend(1, 3, 21);
        int[] odds = {0, 1, 2, 3, 4, 6, 8, 9, 10, 12};
        int[] above = {20, 239, 119, 79, 59, 39, 58, 77, 115, 19};
        int[] below = {1, 12, 6, 4, 3, 2, 3, 4, 6, 1};
        for (int i = 0; i < odds.length; i++) {
            x.mend(1, 2, odds[i]);
            mean("ODDS " + odds[i], x, 0, 0, above[i], below[i]);
        }
    }

    private static void bestMeans() {
        LeastPays x = table(60, 1, 10, 50, 0, 30);
        x.mend(1, 3, 40);
        DUE.is("P11 certain", x.bestMean(0), 0);
        // By 30, 0 .. 30 cost 30 alike; the other with 40 and by a bill of 90 it is 50 by 0 .. 40.
        x.mend(0, 4, 90);
        x.mend(1, 2, 12);
        DUE.is("P11 of like ones the least", x.bestMean(0), 0);
        DUE.is("P11 guest 0 with its 0 pays all", x.bestMean(1), 0);
        x.mend(1, 2, 6);
        // 0 .. 30: 60 or 50; 40: 40 or 50. 40 is the least in the mean, 50 always 50.
        DUE.is("P11 the least mean", x.bestMean(0), 40);
        x.mend(0, 6, 1);
        DUE.is("P11 STEP 1", x.bestMean(0), 31);
        x.mend(0, 0, 30);
        DUE.is("P11 within the PURSE", x.bestMean(0), 0);
        x.mend(0, 0, 0);
        DUE.is("P11 a PURSE of 0", x.bestMean(0), 0);
        x.mend(0, 0, 50);
        x.mend(0, 2, 12);
        DUE.is("P11 its own ODDS play no part", x.bestMean(0), 31);
    }

    /** DOUBLE, SUMS 0 and 10, the other gives 9 in eleven nights and 20 in one: (BILL - 9) * 11 or 130. */
    private static void bestMeansByACoin() {
        LeastPays x = table(20, 3, 10, 10, 0, 9);
        x.mend(1, 0, 20);
        x.mend(1, 2, 1);
        x.mend(1, 3, 20);
        mean("by 0", x, 0, 0, 121, 12);
        mean("by 1", x, 0, 1, 67, 6);
        mean("by 10", x, 0, 10, 65, 6);
        DUE.is("P11 0 is less, though 1 were more", x.bestMean(0), 0);
        x.mend(0, 4, 21);
        DUE.is("P11 one coin more: one STEP", x.bestMean(0), 10);
        x.mend(0, 0, 9);
        DUE.is("P11 one STEP is above its PURSE", x.bestMean(0), 0);
    }

    /** FIRST, guest 0 with a PURSE of 5, guest 1 of 25, guest 2 of 45. */
    private static void eachByItsOwnPurse() {
        LeastPays x = table(99, 1, 10, 5, 0, 0, 0);
        x.mend(1, 0, 25);
        x.mend(2, 0, 45);
        x.mend(2, 1, 10);
        putIn("guest 0 has 0 alone", x, 0, 0, 89);
        putIn("guest 1 need not", x, 1, 0, 0);
        x.mend(0, 1, 5);
        putIn("guest 1 by its PURSE", x, 1, 10, 10);
        putIn("guest 2 need not", x, 2, 0, 0);
        x.mend(1, 1, 20);
        putIn("guest 2 by a PURSE greater than that of 0", x, 2, 10, 10);
        int[] best = {0, 10, 10};
        for (int guest = 0; guest <= 2; guest++) {
            DUE.is("P11 by the PURSE of " + guest, x.bestMean(guest), best[guest]);
            int purse = x.of(guest, 0);
            DUE.holds("P10 the PURSE of " + guest, x.mean(guest, purse, 0) != Due.NO_NUMBER);
            DUE.is("P10 above the PURSE of " + guest, x.mean(guest, purse + 1, 0), Due.NO_NUMBER);
        }
        x.mend(2, 1, 0);
        DUE.is("P12 guest 2 by its own PURSE", x.rest(1), 1);
        x.mend(1, 1, 10);
        DUE.is("P12 guest 2 by its own PURSE", x.rest(1), 2);
        DUE.is("P14 guest 2 alone changes", x.turns(-1), 1);
        DUE.is("P14 by its own PURSE", x.turns(2), 10);
        // TWO: by 20 guest 2 leaves it to guests 3, with a PURSE of 0, and 1; by 0 the two pay all.
        x = table(100, 2, 20, 20, 12, 10, 0, 0);
        x.mend(3, 0, 0);
        agreed("the other by its own PURSE", x, 23, 49, 20, 0, 1);
    }

    private static void restsOfGifts() {
        LeastPays x = table(60, 1, 10, 50, 29, 30);
        // Guest 0 pays 30: by 30 it is the first of like ones and pays 30, by 40 more.
        DUE.is("P12 GIFTS need be no SUMS", x.rest(0), 1);
        DUE.is("P12 nobody would", x.rest(1), LeastPays.NOT);
        x.mend(0, 1, 31);
        DUE.is("P12 31 costs more than 30 by 0", x.rest(1), 0);
        x.mend(0, 4, 61);
        DUE.is("P12 as much by another SUM is no lesser COST", x.rest(1), LeastPays.NOT);
        x.mend(0, 4, 62);
        DUE.is("P12 guest 1 would not", x.rest(0), 1);
    }

    private static void theFirstWho() {
        LeastPays x = table(10, 0, 10, 50, 0, 20, 20);
        DUE.is("P12 guest 0 has nothing to mend", x.rest(1), 1);
        x.mend(1, 1, 0);
        DUE.is("P12 the last", x.rest(1), 2);
        x.mend(0, 1, 10);
        x.mend(2, 1, 0);
        DUE.is("P12 the first of all", x.rest(1), 0);
    }

    private static void waysBySums() {
        // No GIFT that is a SUM but 0: one way alone, at rest, whatever GIFTS are.
        LeastPays x = table(60, 1, 10, 9, 5, 9);
        DUE.is("P13 one way", x.rests(-1), 1);
        DUE.is("P13 by SUMS alone", x.rests(1), 0);
        DUE.is("P13 GIFTS stay", x.of(1, 1), 9);
        // By a bill of 10: (0, 0) and (10, 0) rest, and (0, 10), (10, 10) do not.
        x = table(10, 1, 10, 10, 0, 0);
        DUE.is("P13 two of four", x.rests(-1), 2);
        x = table(0, 0, 10, 50, 0, 0, 0);
        DUE.is("P13 nothing is asked: all at 0", x.rests(-1), 1);
    }

    private static void fourThousandAndNinetySix() {
        LeastPays x = table(0, 0, 1, 63, 0, 0);
        DUE.is("P13 64 times 64 ways", x.rests(-1), 1);
        DUE.is("P13 64 times 64 ways", x.rests(1), 0);
        x.mend(1, 0, 64);
        DUE.is("P13 64 times 65 ways", x.rests(-1), LeastPays.STATE);
        DUE.is("P13 64 times 65 ways", x.rests(1), LeastPays.STATE);
        DUE.is("P13 BAD goes ahead", x.rests(2), LeastPays.BAD);
        x = table(0, 0, 10, 39, 0, 0, 0, 0, 0, 0);
        DUE.is("P13 4 ** 6 ways", x.rests(-1), 1);
        x = table(0, 0, 1, 99, 0, 0);
        x.mend(1, 0, 39);
        DUE.is("P13 100 times 40 ways", x.rests(-1), 1);
        x.mend(1, 0, 40);
        DUE.is("P13 100 times 41 ways", x.rests(-1), LeastPays.STATE);
        x = table(0, 0, 1, 99, 0, 0, 0, 0, 0);
        DUE.is("P13 100 ** 5 ways, more than an int holds", x.rests(-1), LeastPays.STATE);
    }

    private static void theFirstRest() {
        // TWO: 0, 8, 0 and 8, 0, 0 are the only rests; and no others of 5 times 5 ways.
        LeastPays x = table(24, 2, 8, 35, 0, 0, 0);
        x.mend(2, 0, 7);
        DUE.is("P13 how many", x.rests(-1), 2);
        DUE.is("P13 SUMS of guest 0 rise last", x.rests(0), 0);
        DUE.is("P13 SUMS of guest 1 rise ahead of them", x.rests(1), 8);
        DUE.is("P13 guest 2 has but one", x.rests(2), 0);
    }

    private static void turnsTillNobody() {
        LeastPays x = table(60, 1, 10, 50, 29, 30);
        DUE.is("P14 at rest already", x.turns(-1), 0);
        DUE.is("P14 a GIFT stays, though no SUM", x.turns(0), 29);
        x = table(60, 1, 10, 50, 29, 31);
        DUE.is("P14 one changes", x.turns(-1), 1);
        DUE.is("P14 guest 0 stays at no SUM", x.turns(0), 29);
        DUE.is("P14 guest 1 comes to a SUM", x.turns(1), 30);
        DUE.is("P14 in thought", x.of(1, 1), 31);
        DUE.is("P14 no CHANGES", x.count(3), 3);
        // Guest 0 with 45 takes 0, the least of 0 .. 30 that all cost 30; then both rise by turns.
        x = table(60, 1, 10, 50, 45, 30);
        DUE.is("P14 round and round", x.turns(-1), 7);
        DUE.is("P14 guest 0 then", x.turns(0), 30);
        DUE.is("P14 guest 1 then", x.turns(1), 20);
        // All go to 0 by turns; guest 0 then pays the bill and cannot mend it.
        x = table(10, 1, 10, 50, 50, 50, 50);
        DUE.is("P14 by numbers", x.turns(-1), 3);
        DUE.is("P14 guest 0 then", x.turns(0), 0);
        DUE.is("P14 guest 1 then", x.turns(1), 0);
        DUE.is("P14 guest 2 then", x.turns(2), 0);
    }

    /** By FIRST and STEP 1 two who begin at 0 outbid each other by turns till half of the bill. */
    private static void sixtyChanges() {
        int[] bills = {2, 3, 4, 5, 59, 60, 61, 62, 63, 200};
        int[] changes = {1, 2, 3, 4, 58, 59, 60, LeastPays.NOT, LeastPays.NOT, LeastPays.NOT};
        for (int i = 0; i < bills.length; i++) {
            LeastPays x = table(bills[i], 1, 1, 99, 0, 0);
            DUE.is("P14 changes by BILL " + bills[i], x.turns(-1), changes[i]);
            int made = changes[i] < 0 ? 60 : changes[i];
            DUE.is("P14 GIFT 0 by BILL " + bills[i], x.turns(0), (made + 1) / 2);
            DUE.is("P14 GIFT 1 by BILL " + bills[i], x.turns(1), made / 2);
        }
    }

    private static void agreed(String what, LeastPays x, int pq, int... due) {
        String[] parts = {"COSTS together", "the lesser's SUM", "the other's", "the VICTIM"};
        for (int part = 0; part <= 3; part++) {
            DUE.is("P15 " + what + ": " + parts[part], x.agree(pq, part), due[part]);
        }
    }

    private static void likeAgreements() {
        agreed("all alike: the least of both", table(60, 1, 10, 20, 5, 9), 1, 60, 0, 0, LeastPays.NOT);
        // TWO: guest 2 with 10 is one of the two by (0, 20) and by (20, 0), and pays 35 of 70.
        agreed("the lesser's SUM least", table(100, 2, 20, 20, 7, 7, 10), 1, 55, 0, 20, 2);
        agreed("any two of three", table(100, 2, 20, 20, 10, 7, 7), 12, 55, 0, 20, 0);
        agreed("the first and the last", table(100, 2, 20, 20, 7, 10, 7), 2, 55, 0, 20, 1);
        agreed("GIFTS of 0 cost nothing", table(0, 4, 10, 20, 7, 7, 0), 1, 0, 0, 0, LeastPays.NOT);
        // FIRST: both give more than 10, since of like ones the least number pays.
        agreed("both above the victim", table(200, 1, 5, 60, 0, 0, 10), 1, 30, 15, 15, 2);
        agreed("as much as the victim ahead of them", table(200, 1, 5, 60, 10, 0, 0), 12, 20, 10, 10, 0);
        LeastPays x = table(200, 1, 5, 60, 0, 0, 10);
        x.mend(0, 0, 14);
        agreed("no SUM above the lesser's PURSE", x, 1, 190, 0, 0, LeastPays.NOT);
        x.mend(0, 0, 15);
        agreed("a SUM as great as the lesser's PURSE", x, 1, 30, 15, 15, 2);
        x.mend(1, 0, 14);
        agreed("no SUM above the other's PURSE", x, 1, 190, 0, 0, LeastPays.NOT);
        x.mend(1, 0, 15);
        agreed("a SUM as great as the other's PURSE", x, 1, 30, 15, 15, 2);
        x = table(200, 1, 5, 60, 0, 0, 10);
        x.agree(1, 0);
        DUE.is("P15 GIFTS stay", x.of(0, 13), 10);
        x.mend(2, 2, 12);
        agreed("others by GIFTS, not by ODDS", x, 1, 30, 15, 15, 2);
    }

    private static void victims() {
        agreed("two of two", table(60, 0, 10, 20, 0, 0), 1, 60, 0, 0, LeastPays.NOT);
        agreed("nothing lacks, nobody pays", table(0, 1, 10, 20, 5, 5, 5), 1, 0, 0, 0, LeastPays.NOT);
        // DOUBLE: who is least pays its GIFT again, also if nothing lacks.
        agreed("as much again is besides", table(0, 3, 10, 20, 5, 5, 0, 0), 1, 0, 0, 0, LeastPays.NOT);
        agreed("the GIFT again", table(99, 3, 10, 90, 9, 5, 9), 2, 20, 10, 10, 1);
        agreed("a GIFT of 0 again", table(20, 3, 10, 20, 0, 9, 9), 12, 0, 0, 0, 0);
        // ALIKE: guests 2 and 3 with 10 pay in like parts by 20 and 20.
        agreed("the least number of two", table(100, 0, 20, 20, 0, 0, 10, 10), 1, 40, 20, 20, 2);
        agreed("not the least of all, for it agrees", table(100, 0, 20, 20, 0, 10, 0, 10), 2, 40, 20, 20, 1);
        // By 20 and 20 one coin lacks, and the first of like ones pays it.
        agreed("one coin: the first alone", table(61, 0, 20, 20, 10, 10, 0, 0), 23, 40, 20, 20, 0);
        agreed("others behind them alone", table(61, 0, 20, 20, 0, 0, 20, 0), 1, 28, 0, 0, 3);
    }
}
