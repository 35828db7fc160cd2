/** Section 2 of the document: the edges of THE RUN, with answers worked out by hand. */
public final class RunEdgesTest {
    private static final long MOST_OWED = 1000000000000L;
    private static final int OWED = 0, TAKEN = 1, STRUCK = 2, TOTAL = 3, GROWN = 4;
    private static final Due due = new Due();

    public static void main(String[] args) {
        diesInAYear();
        diesWhenDrawn();
        struckByYears();
        struckInTheYearsOfARun();
        struckSooner();
        notStruckAgain();
        grownOfOneYear();
        struckAheadOfAll();
        growsCut();
        growsAtMost();
        growsUpToTheMost();
        drawnInAYear();
        leavesAsFarAsThereIs();
        leavesWhenStruck();
        takenAboveTheLine();
        takenByPart();
        takenAsFarAsOwed();
        takenInOtherLands();
        takenWithoutEarnings();
        byOrder();
        whatIsAheadGoesOff();
        aheadOfOtherPlans();
        plansByThatYear();
        rateOfTexts();
        rateAsKnown();
        over();
        overOfWholeRuns();
        due.end("RunEdgesTest");
    }

    private static void is(String call, long got, long want) {
        due.is(call, got, want);
    }

    /** One PERSON; plan 0 asks for half of what is above 10000 and grows by the rate told. */
    private static LearnLoans house(int rate) {
        LearnLoans x = new LearnLoans();
        x.person(0);
        x.act(0, 0, 10000, 0, 0, 39);
        x.act(0, 1, 500, 0, 0, 39);
        x.act(0, 2, rate, 0, 0, 39);
        return x;
    }

    /** All five answers of a LOAN behind a YEAR. */
    private static void stands(String what, LearnLoans x, int loan, int year, long... wants) {
        String[] names = {"owed", "taken", "struck", "taken in all", "grown"};
        for (int i = 0; i < 5; i++) {
            is("2 " + what + ": " + names[i], x.owes(loan, year, 39, i), wants[i]);
        }
    }

    // ---- (a)

    private static void diesInAYear() {
        LearnLoans x = house(100);
        x.loan(0, 0, 0, 1000, false);
        x.earn(0, 5, 90000, 5);
        x.dies(0, 5);
        stands("ahead of it", x, 0, 4, 1464, 0, 0, 0, 133);
        stands("in it nothing grows and nothing is taken", x, 0, 5, 0, 0, 1464, 0, 0);
        stands("behind it", x, 0, 6, 0, 0, 0, 0, 0);
        LearnLoans y = house(100);
        y.loan(0, 0, 0, 1000, false);
        y.dies(0, 0);
        stands("in the first year", y, 0, 0, 0, 0, 0, 0, 0);
        LearnLoans z = house(0);
        z.loan(0, 0, 39, 1000, false);
        z.loan(0, 0, 38, 1000, false);
        z.dies(0, 39);
        stands("drawn in the last", z, 0, 39, 0, 0, 0, 0, 0);
        stands("drawn ahead of the last", z, 1, 39, 0, 0, 1000, 0, 0);
        stands("a year ahead", z, 1, 38, 1000, 0, 0, 0, 0);
    }

    private static void diesWhenDrawn() {
        LearnLoans x = house(0);
        x.person(0);
        x.loan(0, 0, 6, 1000, false);
        x.loan(0, 0, 7, 1000, false);
        x.loan(1, 0, 7, 1000, false);
        x.dies(0, 6);
        stands("drawn in it", x, 0, 6, 0, 0, 0, 0, 0);
        stands("not struck the next year either", x, 0, 7, 0, 0, 0, 0, 0);
        stands("drawn behind it", x, 1, 7, 0, 0, 0, 0, 0);
        stands("nor ever", x, 1, 39, 0, 0, 0, 0, 0);
        stands("another person's", x, 2, 7, 1000, 0, 0, 0, 0);
    }

    private static void struckByYears() {
        LearnLoans x = house(0);
        x.act(0, 3, 1, 0, 0, 39);
        x.loan(0, 0, 4, 1000, false);
        stands("in its year", x, 0, 4, 1000, 0, 0, 0, 0);
        stands("after 1 year", x, 0, 5, 0, 0, 1000, 0, 0);
        LearnLoans y = house(0);
        y.act(0, 3, 2, 0, 0, 39);
        y.loan(0, 0, 4, 1000, false);
        stands("after 1 of 2 years", y, 0, 5, 1000, 0, 0, 0, 0);
        stands("after 2 years", y, 0, 6, 0, 0, 1000, 0, 0);
    }

    private static void struckInTheYearsOfARun() {
        int[] years = {30, 38, 39, 40, 60};
        for (int n : years) {
            LearnLoans x = house(0);
            x.act(0, 3, n, 0, 0, 39);
            x.loan(0, 0, 0, 1000, false);
            for (int year = 28; year < 40; year++) {
                is("2 owed in " + year + " of " + n, x.owes(0, year, 39, OWED), year < n ? 1000 : 0);
                is("2 struck in " + year + " of " + n, x.owes(0, year, 39, STRUCK), year == n ? 1000 : 0);
            }
        }
    }

    /** More YEARS ago than the PLAN tells, because the number or the PLAN became another. */
    private static void struckSooner() {
        LearnLoans x = house(0);
        x.loan(0, 0, 0, 1000, false);
        x.loan(0, 0, 9, 1000, false);
        x.act(0, 3, 3, 11, 0, 39);
        stands("ahead of the act", x, 0, 10, 1000, 0, 0, 0, 0);
        stands("by the act", x, 0, 11, 0, 0, 1000, 0, 0);
        stands("the younger one not yet", x, 1, 11, 1000, 0, 0, 0, 0);
        stands("the younger one then", x, 1, 12, 0, 0, 1000, 0, 0);
        LearnLoans y = house(0);
        y.act(1, 3, 5, 0, 0, 39);
        y.act(1, 2, 0, 0, 0, 39);
        y.loan(0, 0, 0, 1000, false);
        y.loan(0, 0, 0, 1000, false);
        y.move(0, 1, 8);
        y.move(1, 1, 4);
        stands("ahead of the move", y, 0, 7, 1000, 0, 0, 0, 0);
        stands("by the move", y, 0, 8, 0, 0, 1000, 0, 0);
        stands("moved in time", y, 1, 4, 1000, 0, 0, 0, 0);
        stands("by the years of that plan", y, 1, 5, 0, 0, 1000, 0, 0);
    }

    private static void notStruckAgain() {
        LearnLoans x = house(100);
        x.act(0, 3, 2, 0, 0, 39);
        x.act(0, 3, 60, 3, 0, 39);
        x.loan(0, 0, 0, 1000, false);
        x.earn(0, 3, 90000, 3);
        stands("struck", x, 0, 2, 0, 0, 1100, 0, 0);
        stands("gone, though the years are longer now", x, 0, 3, 0, 0, 0, 0, 0);
        LearnLoans y = house(100);
        y.act(0, 3, 2, 0, 0, 39);
        y.act(0, 3, 3, 2, 0, 39);
        y.loan(0, 0, 0, 1000, false);
        stands("not struck, as the years were longer in time", y, 0, 2, 1210, 0, 0, 0, 110);
        stands("then it is", y, 0, 3, 0, 0, 1210, 0, 0);
    }

    /** What grew in one YEAR is no part of the next, in which it is STRUCK or nothing is owed. */
    private static void grownOfOneYear() {
        LearnLoans x = house(100);
        x.act(0, 3, 3, 0, 0, 39);
        for (int loan = 0; loan < 3; loan++) {
            x.loan(0, 0, 0, 1000, false);
        }
        x.earn(0, 1, 14400, 1);
        for (int loan = 0; loan < 2; loan++) {
            stands("all of it taken", x, loan, 1, 0, 1100, 0, 1100, 100);
            stands("nothing grows then", x, loan, 2, 0, 0, 0, 1100, 0);
        }
        stands("nothing taken", x, 2, 2, 1210, 0, 0, 0, 110);
        stands("struck", x, 2, 3, 0, 0, 1210, 0, 0);
        stands("struck once", x, 2, 4, 0, 0, 0, 0, 0);
    }

    /** What is STRUCK neither grows nor is it TAKEN, and LOANS behind it get the whole. */
    private static void struckAheadOfAll() {
        LearnLoans x = house(100);
        x.act(0, 3, 2, 0, 0, 39);
        x.loan(0, 0, 0, 5000, false);
        x.loan(0, 0, 1, 5000, false);
        x.earn(0, 2, 14000, 2);
        stands("struck", x, 0, 2, 0, 0, 5500, 0, 0);
        stands("the one behind", x, 1, 2, 3500, 2000, 0, 2000, 500);
    }

    // ---- (b)

    private static void growsCut() {
        int[] sums = {1, 33, 34, 66, 67, 9999999, 10000000};
        int[] grown = {0, 0, 1, 1, 2, 299999, 300000};
        for (int i = 0; i < sums.length; i++) {
            LearnLoans x = house(30);
            x.loan(0, 0, 0, sums[i], false);
            stands("in its year", x, 0, 0, sums[i], 0, 0, 0, 0);
            stands("a year on", x, 0, 1, sums[i] + grown[i], 0, 0, 0, grown[i]);
        }
        LearnLoans none = house(0);
        none.loan(0, 0, 0, 10000000, false);
        stands("by 0", none, 0, 29, 10000000, 0, 0, 0, 0);
        LearnLoans most = house(500);
        most.loan(0, 0, 0, 3, false);
        stands("by 500, cut", most, 0, 1, 4, 0, 0, 0, 1);
        stands("twice", most, 0, 2, 6, 0, 0, 0, 2);
        LearnLoans taken = house(100);
        taken.loan(0, 0, 0, 1000, false);
        taken.earn(0, 0, 10200, 0);
        stands("what is taken grows no more", taken, 0, 1, 990, 0, 0, 100, 90);
    }

    private static void growsAtMost() {
        LearnLoans x = house(500);
        x.act(0, 3, 60, 0, 0, 39);
        x.loan(0, 0, 0, 10000000, false);
        long owed = 10000000;
        for (int year = 1; year < 40; year++) {
            long grown = Math.min(owed * 500 / 1000, MOST_OWED - owed);
            owed += grown;
            is("2 grown in " + year, x.owes(0, year, 39, GROWN), grown);
            is("2 owed behind " + year, x.owes(0, year, 39, OWED), owed);
        }
        is("2 the most was reached", owed, MOST_OWED);
        x.act(0, 3, 39, 0, 0, 39);
        is("2 the most is struck", x.owes(0, 39, 39, STRUCK), MOST_OWED);
        x.act(0, 3, 60, 0, 0, 39);
        for (int i = 1; i < 30; i++) {
            x.loan(0, 0, 0, 10000000, false);
        }
        is("2 each loan has its most", x.all(0, 39, 39, OWED), 30 * MOST_OWED);
        is("2 of all nothing grows more", x.all(0, 39, 39, GROWN), 0);
        x.earn(0, 38, 10000000, 38);
        is("2 below the most by what was taken", x.owes(0, 38, 39, OWED), MOST_OWED - 4995000);
        is("2 up to the most again", x.owes(0, 39, 39, GROWN), 4995000);
    }

    /** What would be owed is a penny less than the most, the most, and a penny more. */
    private static void growsUpToTheMost() {
        for (long wanted = MOST_OWED - 1; wanted <= MOST_OWED + 1; wanted++) {
            long ahead = wanted * 1000 / 1174;
            while (ahead + ahead * 174 / 1000 < wanted) {
                ahead++;
            }
            is("2 a year ahead of " + wanted, ahead + ahead * 174 / 1000, wanted);
            LearnLoans x = steered(ahead);
            is("2 owed a year ahead of " + wanted, x.owes(0, 28, 39, OWED), ahead);
            is("2 owed where it would be " + wanted, x.owes(0, 29, 39, OWED), Math.min(wanted, MOST_OWED));
            is("2 grown where it would be " + wanted, x.owes(0, 29, 39, GROWN),
                Math.min(wanted, MOST_OWED) - ahead);
        }
    }

    /** By what is TAKEN in 13 and in 28 so much is owed behind 28; then 174 thousandths come. */
    private static LearnLoans steered(long owedBehind28) {
        LearnLoans x = house(500);
        x.act(0, 0, 0, 0, 0, 39);
        x.act(0, 1, 1000, 0, 0, 39);
        x.act(0, 2, 174, 29, 0, 39);
        x.loan(0, 0, 0, 10000000, false);
        x.earn(0, 13, 1000000, 13);
        long more = x.owes(0, 28, 39, OWED) - owedBehind28;
        due.holds("2 so much can be taken in 28", more > 0 && more <= 10000000);
        x.earn(0, 28, (int) more, 28);
        return x;
    }

    // ---- (c), (d)

    private static void drawnInAYear() {
        LearnLoans x = house(500);
        x.loan(0, 0, 0, 1000, false);
        x.loan(0, 0, 39, 10000000, false);
        stands("in the first year", x, 0, 0, 1000, 0, 0, 0, 0);
        stands("not ahead of the last", x, 1, 38, 0, 0, 0, 0, 0);
        stands("in the last year", x, 1, 39, 10000000, 0, 0, 0, 0);
        LearnLoans y = house(500);
        y.loan(0, 0, 3, 1000, false);
        y.earn(0, 2, 90000, 2);
        y.earn(0, 3, 10500, 3);
        stands("nothing is taken of what is not drawn", y, 0, 2, 0, 0, 0, 0, 0);
        stands("taken in the year in which it is drawn", y, 0, 3, 750, 250, 0, 250, 0);
    }

    private static void leavesAsFarAsThereIs() {
        LearnLoans x = house(0);
        x.loan(0, 0, 0, 10000, true);
        x.earn(0, 0, 20000, 0);
        x.leave(0, 1);
        stands("as much as there is", x, 0, 0, 5000, 5000, 0, 5000, 0);
        stands("nothing is left", x, 0, 1, 0, 0, 0, 5000, 0);
        x.right(0, 0, 20002, 0);
        stands("less than what is given back", x, 0, 0, 4999, 5001, 0, 5001, 0);
        stands("not below 0", x, 0, 1, 0, 0, 0, 5001, 0);
        LearnLoans y = house(0);
        y.loan(0, 0, 0, 10000, true);
        y.earn(0, 0, 19998, 0);
        y.leave(0, 1);
        stands("a penny more than it", y, 0, 0, 5001, 4999, 0, 4999, 0);
        stands("a penny is left", y, 0, 1, 1, 0, 0, 4999, 0);
        LearnLoans z = house(100);
        z.loan(0, 0, 0, 10000, true);
        z.leave(0, 1);
        z.earn(0, 1, 11000, 1);
        stands("behind growing, ahead of taking", z, 0, 1, 5500, 500, 0, 500, 1000);
        LearnLoans w = house(0);
        w.loan(0, 0, 0, 10000, true);
        w.leave(0, 0);
        w.earn(0, 0, 90000, 0);
        stands("in its year, ahead of taking", w, 0, 0, 0, 2500, 0, 2500, 0);
    }

    private static void leavesWhenStruck() {
        LearnLoans x = house(0);
        x.act(0, 3, 1, 0, 0, 39);
        x.loan(0, 0, 2, 10000, true);
        x.leave(0, 3);
        stands("all of it is struck", x, 0, 3, 0, 0, 10000, 0, 0);
        LearnLoans y = house(0);
        y.loan(0, 0, 2, 10000, true);
        y.leave(0, 2);
        y.dies(0, 2);
        stands("never owed", y, 0, 2, 0, 0, 0, 0, 0);
    }

    // ---- (e)

    private static long takenOf(int line, int part, int pence) {
        LearnLoans x = house(0);
        x.act(0, 0, line, 0, 0, 39);
        x.act(0, 1, part, 0, 0, 39);
        x.loan(0, 0, 0, 10000000, false);
        x.earn(0, 0, pence, 0);
        return x.owes(0, 0, 0, TAKEN);
    }

    private static void takenAboveTheLine() {
        is("2 below the line", takenOf(10000, 1000, 9999), 0);
        is("2 at the line", takenOf(10000, 1000, 10000), 0);
        is("2 a penny above it", takenOf(10000, 1000, 10001), 1);
        is("2 nothing earned above nothing", takenOf(0, 1000, 0), 0);
        is("2 a penny above nothing", takenOf(0, 1000, 1), 1);
        is("2 all above nothing", takenOf(0, 1000, 10000000), 10000000);
        is("2 the greatest line", takenOf(10000000, 1000, 10000000), 0);
        is("2 a penny above the next", takenOf(9999999, 1000, 10000000), 1);
        is("2 far below the line", takenOf(10000000, 1000, 0), 0);
    }

    private static void takenByPart() {
        is("2 no part", takenOf(0, 0, 10000000), 0);
        is("2 the least part", takenOf(0, 1, 10000000), 10000);
        is("2 the least part, cut", takenOf(0, 1, 999), 0);
        is("2 the least part of 1000", takenOf(0, 1, 1000), 1);
        is("2 all but a thousandth, cut", takenOf(0, 999, 1), 0);
        is("2 all but a thousandth of 2", takenOf(0, 999, 2), 1);
        is("2 of the most", takenOf(0, 999, 10000000), 9990000);
        is("2 ninety of 11", takenOf(0, 90, 11), 0);
        is("2 ninety of 12", takenOf(0, 90, 12), 1);
    }

    private static void takenAsFarAsOwed() {
        int[] pence = {29998, 30000, 30002, 10000000};
        int[] taken = {9999, 10000, 10000, 10000};
        for (int i = 0; i < pence.length; i++) {
            LearnLoans x = house(100);
            x.loan(0, 0, 0, 10000, false);
            x.earn(0, 0, pence[i], 0);
            x.earn(0, 1, 90000, 1);
            stands("as far as owed", x, 0, 0, 10000 - taken[i], taken[i], 0, taken[i], 0);
            stands("the rest", x, 0, 1, 0, 10000 - taken[i], 0, 10000, 0);
            stands("then nothing more", x, 0, 2, 0, 0, 0, 10000, 0);
        }
    }

    private static void takenInOtherLands() {
        LearnLoans x = house(0);
        x.act(0, 0, 3, 0, 0, 39);
        x.act(0, 1, 1000, 0, 0, 39);
        x.loan(0, 0, 0, 10000000, false);
        x.earn(0, 0, 10, 0);
        for (int land = 0; land < 4; land++) {
            x.land(0, land, 0, 0);
            x.scale(land, 500);
            is("2 three by half is one in land " + land, x.owes(0, 0, 0, TAKEN), land == 0 ? 7 : 9);
        }
        x.scale(3, 333);
        is("2 three by a third is none", x.owes(0, 0, 0, TAKEN), 10);
        x.scale(3, 334);
        is("2 then it is one", x.owes(0, 0, 0, TAKEN), 9);
        x.scale(3, 3333);
        is("2 nine", x.owes(0, 0, 0, TAKEN), 1);
        x.scale(3, 3334);
        is("2 ten", x.owes(0, 0, 0, TAKEN), 0);
        x.act(0, 0, 10000000, 0, 0, 39);
        x.scale(3, 5000);
        is("2 fifty millions", x.owes(0, 0, 0, TAKEN), 0);
        x.right(0, 0, 10000000, 0);
        is("2 still above all that is earned", x.owes(0, 0, 0, TAKEN), 0);
        x.scale(3, 1);
        is("2 ten thousand", x.owes(0, 0, 0, TAKEN), 9990000);
    }

    private static void takenWithoutEarnings() {
        LearnLoans x = house(0);
        x.loan(0, 0, 0, 10000000, false);
        is("2 none at home", x.owes(0, 0, 39, TAKEN), 0);
        int[] fixed = {0, 1, 1000000};
        for (int v : fixed) {
            x.act(0, 5, v, 0, 0, 39);
            for (int land = 1; land < 4; land++) {
                x.land(0, land, 0, 0);
                x.scale(land, land);
                is("2 fixed " + v + " in land " + land, x.owes(0, 0, 39, TAKEN), v);
            }
        }
        LearnLoans y = house(0);
        y.loan(0, 0, 0, 9999, false);
        y.land(0, 1, 0, 0);
        stands("fixed as far as owed", y, 0, 0, 0, 9999, 0, 9999, 0);
    }

    private static void byOrder() {
        LearnLoans x = house(0);
        for (int plan = 0; plan < 5; plan++) {
            x.act(plan, 0, 0, 0, 0, 39);
            x.act(plan, 1, 1000, 0, 0, 39);
            x.loan(0, plan, 0, 100, false);
        }
        x.earn(0, 0, 150, 0);
        int[] like = {100, 50, 0, 0, 0};
        int[] last = {0, 0, 0, 50, 100};
        int[] mixed = {50, 0, 0, 0, 100};
        takenInTurn("like order: by number", x, like);
        int[] orders = {9, 8, 7, 6, 5};
        for (int plan = 0; plan < 5; plan++) {
            x.act(plan, 4, orders[plan], 0, 0, 39);
        }
        takenInTurn("the least order first", x, last);
        x.act(0, 4, 5, 0, 0, 39);
        takenInTurn("two of the least: by number", x, new int[] {100, 0, 0, 0, 50});
        x.act(4, 4, 0, 0, 0, 39);
        takenInTurn("0 is the least", x, mixed);
        x.act(0, 4, 9, 0, 0, 39);
        x.act(3, 4, 9, 0, 0, 39);
        x.act(2, 4, 8, 0, 0, 39);
        x.act(1, 4, 9, 0, 0, 39);
        takenInTurn("9 is the greatest", x, new int[] {0, 0, 50, 0, 100});
    }

    private static void takenInTurn(String what, LearnLoans x, int[] wants) {
        for (int loan = 0; loan < wants.length; loan++) {
            is("2 " + what + ", loan " + loan, x.owes(loan, 0, 0, TAKEN), wants[loan]);
        }
    }

    /** Only what was TAKEN goes off, not what could have been; and not below 0. */
    private static void whatIsAheadGoesOff() {
        LearnLoans x = house(0);
        x.act(1, 0, 0, 0, 0, 39);
        x.act(1, 1, 100, 0, 0, 39);
        x.loan(0, 0, 0, 1999, false);
        x.loan(0, 1, 0, 10000, false);
        x.loan(0, 1, 0, 10000, false);
        x.loan(0, 0, 0, 10000, false);
        x.earn(0, 0, 20000, 0);
        takenInTurn("off a smaller part", x, new int[] {1999, 1, 0, 3000});
        LearnLoans y = house(0);
        y.act(1, 0, 0, 0, 0, 39);
        y.act(1, 1, 100, 0, 0, 39);
        y.loan(0, 0, 0, 2001, false);
        y.loan(0, 1, 0, 10000, false);
        y.loan(0, 0, 0, 10000, false);
        y.earn(0, 0, 20000, 0);
        takenInTurn("0 at least", y, new int[] {2001, 0, 2999});
        y.loan(0, 0, 0, 10000, false);
        takenInTurn("nothing is left", y, new int[] {2001, 0, 2999, 0});
    }

    /** FIXED of one PLAN, and what one PLAN takes above its LINE, both go off another. */
    private static void aheadOfOtherPlans() {
        LearnLoans x = house(0);
        x.act(0, 5, 700, 0, 0, 39);
        x.act(1, 5, 900, 0, 0, 39);
        x.loan(0, 0, 0, 5000, false);
        x.loan(0, 1, 0, 5000, false);
        x.land(0, 1, 0, 2);
        is("2 fixed ahead", x.owes(0, 0, 0, TAKEN), 700);
        is("2 goes off the fixed behind", x.owes(1, 0, 0, TAKEN), 200);
        x.act(1, 4, 1, 0, 0, 39);
        x.act(0, 4, 2, 0, 0, 39);
        is("2 by order", x.owes(1, 0, 0, TAKEN), 900);
        is("2 goes off the smaller one", x.owes(0, 0, 0, TAKEN), 0);
        is("2 in each year anew", x.owes(1, 2, 0, TOTAL), 2700);
    }

    private static void plansByThatYear() {
        LearnLoans x = house(100);
        x.act(1, 0, 0, 0, 0, 39);
        x.act(1, 1, 100, 0, 0, 39);
        x.act(1, 2, 200, 0, 0, 39);
        x.loan(0, 0, 0, 10000, false);
        x.move(0, 1, 2);
        for (int year = 0; year < 4; year++) {
            x.earn(0, year, 11000, year);
        }
        stands("as drawn", x, 0, 1, 9950, 500, 0, 1000, 950);
        stands("as moved", x, 0, 2, 10840, 1100, 0, 2100, 1990);
        x.act(1, 0, 10999, 3, 0, 39);
        x.act(1, 1, 1000, 3, 0, 39);
        stands("as acts of that year tell", x, 0, 3, 13007, 1, 0, 2101, 2168);
    }

    // ---- RATE, OVER

    private static void rateOfTexts() {
        LearnLoans x = house(70);
        x.loan(0, 0, 0, 1000, false);
        String[] texts = {"0", "1", "499", "500", "501", "999999", "-1", "0-999999", "65536*65536",
            "65536*65536+7", "-(65536*65536)", "7-65536*65536", "", " ", "7+", "1234567", "7)"};
        int[] rates = {0, 1, 499, 500, 500, 500, 0, 0, 500, 500, 0, 0, 70, 70, 70, 70, 70};
        for (int i = 0; i < texts.length; i++) {
            Scene.write(x, 0, texts[i]);
            is("2 rate of '" + texts[i] + "'", x.rate(0, 1, 0), rates[i]);
            is("2 grown by '" + texts[i] + "'", x.owes(0, 1, 0, GROWN), rates[i]);
        }
        Scene.write(x, 1, "5");
        is("2 another plan's text is not its", x.rate(0, 1, 0), 70);
        x.move(0, 1, 1);
        is("2 then it is", x.rate(0, 1, 0), 5);
        is("2 not ahead", x.rate(0, 0, 0), 70);
    }

    private static void rateAsKnown() {
        LearnLoans x = house(10);
        x.loan(0, 0, 0, 1000, false);
        x.earn(0, 1, 100, 3);
        x.right(0, 1, 200, 5);
        Scene.write(x, 0, "e");
        is("2 none is -1", x.rate(0, 1, 2), 0);
        Scene.write(x, 0, "e+2");
        is("2 none is -1, and 2", x.rate(0, 1, 2), 1);
        is("2 as known first", x.rate(0, 1, 3), 102);
        is("2 as known last", x.rate(0, 1, 5), 202);
        is("2 grown as known first", x.owes(0, 1, 4, GROWN), 102);
        is("2 grown as known last", x.owes(0, 1, 5, GROWN), 202);
        Scene.write(x, 0, "o/10");
        x.dies(0, 2);
        is("2 with what is owed ahead of the year, if struck in it", x.rate(0, 2, 5), 110);
        is("2 then nothing is", x.rate(0, 3, 5), 0);
    }

    private static void over() {
        LearnLoans x = house(0);
        x.loan(0, 0, 0, 3000, false);
        x.loan(0, 0, 0, 3000, false);
        x.earn(0, 2, 20000, 2);
        x.right(0, 2, 18000, 4);
        is("2 over as known a year ahead of it", x.over(0, 2, 3), 0);
        is("2 over of both loans", x.over(0, 2, 4), 1000);
        is("2 over at the last", x.over(0, 2, 39), 1000);
        is("2 over at itself", x.over(0, 2, 2), 0);
        is("2 over as known ahead of the year", x.over(0, 2, 1), 5000);
        is("2 over of a year without", x.over(0, 3, 39), 0);
        x.earn(0, 0, 11000, 1);
        is("2 too little", x.over(0, 0, 1), -500);
        is("2 too little at the last", x.over(0, 0, 39), -500);
        is("2 not known then either", x.over(0, 0, 0), 0);
        x.person(0);
        is("2 over without loans", x.over(1, 0, 39), 0);
        is("2 over of the last year", x.over(0, 39, 0), 0);
    }

    /** What was known late of YEARS ahead changes what is TAKEN in a YEAR. */
    private static void overOfWholeRuns() {
        LearnLoans x = house(0);
        x.loan(0, 0, 0, 6000, false);
        x.earn(0, 0, 18000, 3);
        x.earn(0, 2, 18000, 2);
        is("2 taken as known in 2", x.all(0, 2, 2, TAKEN), 4000);
        is("2 taken as known in 3", x.all(0, 2, 3, TAKEN), 2000);
        is("2 taken too much as all was late", x.over(0, 2, 3), 2000);
        is("2 struck is no part of it", x.all(0, 2, 3, STRUCK), 0);
    }
}
