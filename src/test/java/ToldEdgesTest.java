/** Section 1 of the document: the edges of what is told, with answers worked out by hand. */
public final class ToldEdgesTest {
    private static final int NONE = -1, BAD = -2, NO = -3, FULL = -4;
    private static final Due due = new Due();

    public static void main(String[] args) {
        twelvePersons();
        landsOfYears();
        scalesOfLands();
        pricesOfYears();
        earningsKnown();
        earningsPutRight();
        noneAndNothing();
        numbersAtFirst();
        actsFromAYearOn();
        actsForWhoBegan();
        actsOfLikeYears();
        sixtyActs();
        thirtyLoans();
        feesGivenBack();
        feesNotGivenBack();
        moves();
        sixtyMoves();
        due.end("ToldEdgesTest");
    }

    private static void is(String call, long got, long want) {
        due.is(call, got, want);
    }

    /** Plan 0: nothing grows, and half of what is above 10000 is asked for. */
    private static LearnLoans house() {
        LearnLoans x = new LearnLoans();
        x.act(0, 0, 10000, 0, 0, 39);
        x.act(0, 1, 500, 0, 0, 39);
        x.act(0, 2, 0, 0, 0, 39);
        return x;
    }

    private static void twelvePersons() {
        LearnLoans x = house();
        is("1 none is there", x.earnings(0, 0, 0), BAD);
        for (int i = 0; i < 12; i++) {
            is("1 not yet there", x.dies(i, 0), BAD);
            is("1 as they come", x.person(39 - i), i);
        }
        is("1 the 13th is refused", x.person(0), FULL);
        is("1 and is not there", x.dies(12, 0), BAD);
        is("1 the 12th lends", x.loan(11, 0, 0, 7000, false), 0);
        x.earn(11, 0, 12000, 0);
        is("1 and pays", x.owes(0, 0, 0, 1), 1000);
        is("1 together with all", x.tried(0, 0, 10000, 0, 0), 1000);
        x.act(0, 0, 0, 0, 28, 28);
        is("1 the 12th began in 28", x.force(0, 0, 11, 0), 0);
        is("1 the 11th did not", x.force(0, 0, 10, 0), 10000);
    }

    /** What is FIXED is TAKEN in another LAND, nothing at home. */
    private static void landsOfYears() {
        LearnLoans x = house();
        x.person(0);
        x.person(0);
        x.act(0, 5, 10, 0, 0, 39);
        x.act(0, 3, 60, 0, 0, 39);
        x.loan(0, 0, 0, 100000, false);
        x.loan(1, 0, 0, 100000, false);
        is("1 at home at first", x.all(0, 39, 39, 3), 0);
        x.land(0, 1, 0, 0);
        is("1 in the first year", x.owes(0, 0, 39, 1), 10);
        is("1 not in the next", x.owes(0, 1, 39, 1), 0);
        x.land(0, 1, 39, 39);
        is("1 in the last year", x.owes(0, 39, 39, 1), 10);
        is("1 not ahead of it", x.owes(0, 38, 39, 1), 0);
        is("1 nor another person", x.all(1, 39, 39, 3), 0);
        x.land(0, 3, 0, 39);
        is("1 all years", x.all(0, 39, 39, 3), 400);
        x.land(0, 0, 10, 19);
        is("1 home again for ten", x.all(0, 39, 39, 3), 300);
        is("1 up to one", x.owes(0, 9, 39, 1), 10);
        is("1 from one", x.owes(0, 10, 39, 1), 0);
        is("1 to one", x.owes(0, 19, 39, 1), 0);
        is("1 behind one", x.owes(0, 20, 39, 1), 10);
    }

    private static void scalesOfLands() {
        LearnLoans x = house();
        x.person(0);
        x.loan(0, 0, 0, 100000, false);
        for (int year = 0; year < 4; year++) {
            x.land(0, year, year, year);
            x.earn(0, year, 20000, year);
        }
        x.scale(0, 5000);
        x.scale(1, 1);
        x.scale(2, 1999);
        is("1 home has its line as it is", x.owes(0, 0, 39, 1), 5000);
        is("1 the least scale", x.owes(0, 1, 39, 1), 9995);
        is("1 land 2", x.owes(0, 2, 39, 1), 5);
        is("1 land 3 as at first", x.owes(0, 3, 39, 1), 5000);
        x.scale(2, 5000);
        is("1 the greatest scale", x.owes(0, 2, 39, 1), 0);
        x.act(0, 0, 1000000, 2, 0, 39);
        x.right(0, 2, 5000002, 2);
        is("1 the line times the greatest", x.owes(0, 2, 39, 1), 1);
        is("1 what land 1 has is told", x.scale(1, 7), 1);
        is("1 what land 3 has is told", x.scale(3, 7), 1000);
    }

    private static void pricesOfYears() {
        LearnLoans x = house();
        x.person(0);
        x.loan(0, 0, 0, 100000, false);
        Scene.write(x, 0, "p+100");
        x.prices(0, -100);
        x.prices(39, 400);
        is("1 the first year's", x.rate(0, 0, 0), 0);
        is("1 0 in the next", x.rate(0, 1, 0), 100);
        is("1 0 ahead of the last", x.rate(0, 38, 0), 100);
        is("1 the last year's", x.rate(0, 39, 0), 500);
    }

    private static void earningsKnown() {
        LearnLoans x = house();
        x.person(0);
        x.person(0);
        is("1 known in its year", x.earn(0, 0, 1, 0), 1);
        is("1 at once", x.earnings(0, 0, 0), 1);
        is("1 known in the last", x.earn(0, 38, 2, 39), 1);
        is("1 a year ahead none", x.earnings(0, 38, 38), NONE);
        is("1 then it is", x.earnings(0, 38, 39), 2);
        is("1 of the last year", x.earn(0, 39, 3, 39), 1);
        is("1 as known ahead of the year", x.earnings(0, 39, 0), NONE);
        is("1 as known then", x.earnings(0, 39, 39), 3);
        is("1 the next person has none", x.earnings(1, 0, 39), NONE);
        is("1 told once, if not known yet", x.earn(0, 38, 2, 38), NO);
        is("1 told once, of nothing", x.earn(1, 5, 0, 5), 1);
        is("1 nothing is told too", x.earn(1, 5, 7, 5), NO);
        is("1 nothing is known", x.earnings(1, 5, 5), 0);
    }

    private static void earningsPutRight() {
        LearnLoans x = house();
        x.person(0);
        x.earn(0, 3, 100, 6);
        is("1 a year too early", x.right(0, 3, 200, 5), BAD);
        is("1 no earlier", x.right(0, 3, 0, 6), 1);
        is("1 known last", x.earnings(0, 3, 6), 0);
        is("1 none ahead", x.earnings(0, 3, 5), NONE);
        is("1 put right once", x.right(0, 3, 300, 39), NO);
        x.earn(0, 4, 100, 6);
        is("1 known from the last", x.right(0, 4, 10000000, 39), 1);
        is("1 the first till then", x.earnings(0, 4, 38), 100);
        is("1 then the other", x.earnings(0, 4, 39), 10000000);
        x.earn(0, 5, 100, 39);
        is("1 both known in the last", x.right(0, 5, 50, 39), 1);
        is("1 the other", x.earnings(0, 5, 39), 50);
        is("1 none of them ahead", x.earnings(0, 5, 38), NONE);
        is("1 nothing told of that year", x.right(0, 6, 50, 39), NO);
        is("1 nor was it then", x.earnings(0, 6, 39), NONE);
        is("1 it can be told", x.earn(0, 6, 60, 39), 1);
        is("1 and put right", x.right(0, 6, 61, 39), 1);
    }

    /** Abroad nothing earned is not the same as no EARNINGS. */
    private static void noneAndNothing() {
        LearnLoans x = house();
        x.person(0);
        x.loan(0, 0, 0, 100000, false);
        x.land(0, 1, 0, 39);
        x.earn(0, 1, 0, 2);
        is("1 none: fixed", x.owes(0, 0, 39, 1), 10000);
        is("1 nothing earned: nothing", x.owes(0, 1, 39, 1), 0);
        is("1 not known yet: fixed", x.owes(0, 1, 1, 1), 10000);
        x.land(0, 0, 0, 39);
        is("1 none at home: nothing", x.owes(0, 0, 39, 1), 0);
    }

    private static void numbersAtFirst() {
        LearnLoans x = new LearnLoans();
        x.person(39);
        int[] first = {2000000, 90, 30, 30, 0, 10000};
        for (int plan = 0; plan < 5; plan++) {
            for (int what = 0; what < 6; what++) {
                is("1 plan " + plan + ", number " + what, x.force(plan, what, 0, 0), first[what]);
                is("1 in the last year", x.force(plan, what, 0, 39), first[what]);
            }
        }
        x.loan(0, 0, 0, 1000000, false);
        x.earn(0, 0, 2000011, 0);
        is("1 the line and the part at first", x.owes(0, 0, 0, 1), 0);
        x.right(0, 0, 2000012, 0);
        is("1 a penny more", x.owes(0, 0, 0, 1), 1);
        is("1 the rate at first, cut", x.owes(0, 1, 0, 4), 29999);
        is("1 not struck in 29", x.owes(0, 29, 0, 2), 0);
        due.holds("1 struck in 30", x.owes(0, 30, 0, 2) > 1000000);
    }

    private static void actsFromAYearOn() {
        LearnLoans x = new LearnLoans();
        x.person(0);
        x.act(3, 5, 7, 39, 0, 39);
        is("1 ahead of the last year", x.force(3, 5, 0, 38), 10000);
        is("1 in the last year", x.force(3, 5, 0, 39), 7);
        x.act(3, 5, 8, 0, 0, 39);
        is("1 from the first year", x.force(3, 5, 0, 0), 8);
        is("1 till the next comes", x.force(3, 5, 0, 38), 8);
        is("1 the latest year's, told earlier", x.force(3, 5, 0, 39), 7);
        is("1 another plan's stays", x.force(2, 5, 0, 39), 10000);
        is("1 another number stays", x.force(3, 4, 0, 39), 0);
        x.act(3, 5, 9, 20, 0, 39);
        is("1 a year ahead", x.force(3, 5, 0, 19), 8);
        is("1 in its year", x.force(3, 5, 0, 20), 9);
        is("1 not behind a later one", x.force(3, 5, 0, 39), 7);
    }

    private static void actsForWhoBegan() {
        LearnLoans x = new LearnLoans();
        int[] began = {0, 4, 5, 9, 10, 39};
        for (int year : began) {
            x.person(year);
        }
        x.act(0, 0, 1, 0, 5, 9);
        int[] wants = {2000000, 2000000, 1, 1, 2000000, 2000000};
        for (int i = 0; i < began.length; i++) {
            is("1 who began in " + began[i], x.force(0, 0, i, 0), wants[i]);
        }
        x.act(0, 0, 2, 0, 0, 0);
        x.act(0, 0, 3, 0, 39, 39);
        is("1 who began in the first alone", x.force(0, 0, 0, 0), 2);
        is("1 who began in the last alone", x.force(0, 0, 5, 0), 3);
        is("1 the others stay", x.force(0, 0, 1, 0), 2000000);
        x.act(0, 0, 4, 0, 10, 10);
        is("1 for one year's", x.force(0, 0, 4, 0), 4);
        is("1 not who began ahead", x.force(0, 0, 3, 0), 1);
    }

    private static void actsOfLikeYears() {
        LearnLoans x = new LearnLoans();
        x.person(5);
        x.act(0, 0, 900, 3, 0, 39);
        x.act(0, 0, 100, 3, 0, 39);
        is("1 of like years the one told last", x.force(0, 0, 0, 3), 100);
        x.act(0, 0, 500, 3, 6, 39);
        is("1 of those for who began in 5", x.force(0, 0, 0, 3), 100);
        x.act(0, 0, 700, 2, 0, 39);
        is("1 told last for an earlier year", x.force(0, 0, 0, 3), 100);
        is("1 in that earlier year", x.force(0, 0, 0, 2), 700);
    }

    private static void sixtyActs() {
        LearnLoans x = new LearnLoans();
        x.person(0);
        for (int i = 0; i < 60; i++) {
            is("1 as they come", x.act(1, 0, i, 0, 0, 39), i);
            is("1 the last told is in force", x.force(1, 0, 0, 0), i);
        }
        is("1 the 61st is refused", x.act(1, 0, 1000, 0, 0, 39), FULL);
        is("1 and is not in force", x.force(1, 0, 0, 39), 59);
        is("1 nor of another plan", x.act(2, 1, 1, 0, 0, 39), FULL);
        is("1 which stays as it was", x.force(2, 1, 0, 0), 90);
    }

    private static void thirtyLoans() {
        LearnLoans x = house();
        x.person(0);
        x.person(0);
        for (int i = 0; i < 30; i++) {
            is("1 not yet there", x.owes(i, 0, 0, 0), BAD);
            is("1 as they come", x.loan(i % 2, 0, 0, 100 + i, false), i);
        }
        is("1 the 31st is refused", x.loan(0, 0, 0, 5000, false), FULL);
        is("1 and is not there", x.owes(30, 0, 0, 0), BAD);
        is("1 owed by the first", x.all(0, 0, 0, 0), 1710);
        is("1 owed by the second", x.all(1, 0, 0, 0), 1725);
        x.earn(1, 0, 13448, 0);
        is("1 the 30th is the last of which is taken", x.owes(29, 0, 0, 1), 128);
        is("1 all but a penny", x.all(1, 0, 0, 0), 1);
    }

    private static void feesGivenBack() {
        int[] sums = {1, 2, 3, 4, 9999999, 10000000};
        int[] inIt = {0, 1, 2, 3, 7499999, 7500000};
        int[] inNext = {0, 1, 1, 2, 4999999, 5000000};
        LearnLoans x = house();
        x.person(0);
        for (int i = 0; i < sums.length; i++) {
            x.loan(0, 0, 7, sums[i], true);
            x.loan(0, 0, 7, sums[i], true);
            is("1 in its year of " + sums[i], x.leave(2 * i, 7), inIt[i]);
            is("1 in the next of " + sums[i], x.leave(2 * i + 1, 8), inNext[i]);
            is("1 went off in its year", x.owes(2 * i, 7, 39, 0), sums[i] - inIt[i]);
            is("1 not yet", x.owes(2 * i + 1, 7, 39, 0), sums[i]);
            is("1 went off in the next", x.owes(2 * i + 1, 8, 39, 0), sums[i] - inNext[i]);
        }
        x.loan(0, 0, 39, 1000, true);
        is("1 drawn in the last year", x.leave(12, 39), 750);
        x.loan(0, 0, 38, 1000, true);
        is("1 drawn ahead of it", x.leave(13, 39), 500);
        x.loan(0, 0, 0, 1000, true);
        is("1 drawn in the first", x.leave(14, 0), 750);
    }

    private static void feesNotGivenBack() {
        LearnLoans x = house();
        x.person(0);
        x.loan(0, 0, 7, 1000, true);
        x.loan(0, 0, 7, 1000, false);
        is("1 too early by one", x.leave(0, 6), BAD);
        is("1 no fee", x.leave(1, 7), BAD);
        is("1 no such loan", x.leave(2, 7), BAD);
        is("1 two years on", x.leave(0, 9), 0);
        is("1 nothing goes off", x.owes(0, 9, 39, 0), 1000);
        is("1 once", x.leave(0, 7), NO);
        is("1 as it was told first", x.owes(0, 7, 39, 0), 1000);
        is("1 too early is bad still", x.leave(0, 6), BAD);
        x.loan(0, 0, 0, 1000, true);
        is("1 in the last year", x.leave(2, 39), 0);
    }

    private static void moves() {
        LearnLoans x = house();
        x.person(0);
        x.loan(0, 4, 5, 1000, false);
        x.loan(0, 3, 5, 1000, false);
        is("1 ahead of drawing", x.planOf(0, 0), 4);
        x.move(0, 1, 39);
        is("1 ahead of the last", x.planOf(0, 38), 4);
        is("1 in the last", x.planOf(0, 39), 1);
        x.move(0, 2, 0);
        is("1 the latest told counts in the first", x.planOf(0, 0), 2);
        is("1 and in the last", x.planOf(0, 39), 2);
        x.move(0, 0, 20);
        is("1 a year ahead", x.planOf(0, 19), 2);
        is("1 in its year", x.planOf(0, 20), 0);
        x.move(0, 0, 20);
        is("1 moved where it is", x.planOf(0, 20), 0);
        is("1 the other stays", x.planOf(1, 39), 3);
        is("1 in the first year too", x.planOf(1, 0), 3);
        is("1 four were told", x.count(3), 4);
    }

    private static void sixtyMoves() {
        LearnLoans x = house();
        x.person(0);
        x.loan(0, 0, 0, 1000, false);
        x.loan(0, 0, 0, 1000, false);
        for (int i = 1; i <= 60; i++) {
            is("1 moved", x.move(i % 2, i % 5, 10), 1);
            is("1 at once", x.planOf(i % 2, 10), i % 5);
            is("1 how many", x.count(3), i);
        }
        is("1 the 61st is refused", x.move(0, 3, 0), FULL);
        is("1 of each loan", x.move(1, 3, 0), FULL);
        is("1 the 60th counts", x.planOf(0, 39), 0);
        is("1 the 59th counts", x.planOf(1, 39), 4);
        is("1 as drawn ahead", x.planOf(0, 9), 0);
    }
}
