/** Section 4 of the document: the edges of BOOKS, LIVES, CHANCES and other numbers. */
public final class LivesEdgesTest {
    private static final int NONE = -1, BAD = -2, NO = -3, FULL = -4;
    private static final int MEAN = 0, LEAST = 1, GREATEST = 2, NEVER = 3;
    private static final Due due = new Due();

    public static void main(String[] args) {
        soldFromAYearOn();
        soldIntoFour();
        shortByAPenny();
        promisedByAYear();
        twentyPromises();
        lifeOfYears();
        lifeFromAYearOn();
        lifeAtHome();
        lifeWithoutDying();
        lifeBehindDying();
        lifeOfWhoDiedAtTheEnds();
        earlyOrNot();
        earlyInYears();
        earlyAsFarAsOwed();
        earlyBehindLeaving();
        earlyBehindDying();
        choiceOfPlans();
        choiceOfPlansInAll();
        chancesAtFirst();
        chancesOfAll();
        chancesWithoutOne();
        chancesOfFiveYears();
        deadStaysSo();
        struckInTheYearsForetold();
        drawnInTheYearsForetold();
        foretoldBehindTheRun();
        triedOfEachNumber();
        triedWithActs();
        triedOfAll();
        bestAsAsked();
        bestOfLikeOnes();
        bestOfNumbersThatAreSome();
        nineNumbers();
        due.end("LivesEdgesTest");
    }

    private static void is(String call, long got, long want) {
        due.is(call, got, want);
    }

    /** One PERSON; plan 0 asks for half of what is above 10000 and grows by the rate told. */
    private static LearnLoans house(int rate) {
        LearnLoans x = new LearnLoans();
        x.person(0);
        x.act(0, 0, 10000, 0, 0, 39);
        x.act(0, 1, 500, 0, 0, 39);
        x.act(0, 2, rate, 0, 0, 39);
        return x;
    }

    // ---- BOOKS

    private static void soldFromAYearOn() {
        LearnLoans x = house(0);
        x.act(0, 3, 60, 0, 0, 39);
        for (int loan = 0; loan < 3; loan++) {
            x.loan(0, 0, 0, 1000000, false);
        }
        x.land(0, 1, 0, 39);
        is("4 in the first year", x.sell(0, 0, 0), 1);
        is("4 first, behind the first year", x.book(0, 0, 39, 0), 10000);
        is("4 all years", x.book(0, 39, 39, 0), 400000);
        LearnLoans y = house(0);
        y.act(0, 3, 60, 0, 0, 39);
        y.loan(0, 0, 0, 1000000, false);
        y.land(0, 1, 0, 39);
        y.sell(0, 1, 39);
        is("4 ahead of the last", y.book(1, 38, 39, 0), 0);
        is("4 the last alone", y.book(1, 39, 39, 0), 10000);
        LearnLoans z = house(0);
        z.loan(0, 0, 20, 1000000, false);
        z.land(0, 1, 0, 39);
        z.sell(0, 2, 10);
        is("4 sold ahead of drawing", z.book(2, 19, 39, 0), 0);
        is("4 then it is the book's", z.book(2, 21, 39, 0), 20000);
        is("4 sold once", z.sell(0, 3, 21), NO);
        is("4 it stays", z.book(2, 22, 39, 0), 30000);
        is("4 in no other", z.book(3, 39, 39, 0), 0);
    }

    private static void soldIntoFour() {
        LearnLoans x = house(0);
        x.person(0);
        for (int i = 0; i < 8; i++) {
            x.loan(i % 2, 0, 0, 1 << i, false);
            is("4 sold", x.sell(i, i / 2, 0), 1);
        }
        x.earn(0, 0, 90000, 0);
        x.earn(1, 0, 90000, 3);
        for (int book = 0; book < 4; book++) {
            is("4 of both in " + book, x.book(book, 0, 3, 0), 3L << 2 * book);
            is("4 of the first alone is known in " + book, x.book(book, 39, 2, 0), 1L << 2 * book);
        }
        is("4 book 4", x.book(4, 39, 39, 0), BAD);
    }

    private static void shortByAPenny() {
        int[] promised = {4999, 5000, 5001, 1000000000};
        long[] wants = {0, 0, 1, 999995000};
        for (int i = 0; i < promised.length; i++) {
            LearnLoans x = house(0);
            x.loan(0, 0, 0, 1000000, false);
            x.earn(0, 3, 20000, 3);
            x.sell(0, 2, 3);
            is("4 nothing promised", x.book(2, 39, 39, 1), 0);
            x.promise(2, 3, promised[i]);
            is("4 short of " + promised[i], x.book(2, 3, 3, 1), wants[i]);
            is("4 short as known ahead", x.book(2, 3, 2, 1), promised[i]);
            is("4 short at the last", x.book(2, 39, 39, 1), wants[i]);
        }
    }

    private static void promisedByAYear() {
        LearnLoans x = new LearnLoans();
        x.promise(0, 0, 1);
        x.promise(0, 39, 20);
        x.promise(0, 20, 300);
        x.promise(1, 20, 4000);
        is("4 the first year", x.book(0, 0, 39, 1), 1);
        is("4 ahead of 20", x.book(0, 19, 39, 1), 1);
        is("4 in 20", x.book(0, 20, 39, 1), 301);
        is("4 ahead of the last", x.book(0, 38, 39, 1), 301);
        is("4 in the last", x.book(0, 39, 39, 1), 321);
        is("4 of the next book", x.book(1, 39, 39, 1), 4000);
        is("4 of none", x.book(2, 39, 39, 1), 0);
        is("4 nothing is there", x.book(0, 39, 39, 0), 0);
    }

    private static void twentyPromises() {
        LearnLoans x = new LearnLoans();
        for (int i = 1; i <= 20; i++) {
            is("4 promise", x.promise(3, 0, 1000000000), i);
            is("4 together", x.book(3, 0, 0, 1), 1000000000L * i);
        }
        is("4 the 21st is refused", x.promise(3, 0, 1), FULL);
        is("4 of another book too", x.promise(0, 0, 1), FULL);
        is("4 and is not promised", x.book(3, 39, 0, 1), 20000000000L);
        is("4 nor there", x.book(0, 39, 0, 1), 0);
    }

    // ---- LIVES

    private static void lifeOfYears() {
        LearnLoans x = house(0);
        x.act(0, 3, 60, 0, 0, 39);
        x.loan(0, 0, 0, 10000000, false);
        for (int life = 0; life < 4; life++) {
            is("4 nothing at first", x.choice(0, NONE, life, 0, 39), 0);
        }
        x.live(0, 0, 0, 10002);
        x.live(1, 39, 39, 10004);
        x.live(2, 0, 39, 10006);
        x.live(3, 10, 20, 10008);
        is("4 the first year", x.choice(0, NONE, 0, 0, 39), 1);
        is("4 not behind it", x.choice(0, NONE, 0, 1, 39), 0);
        is("4 the last year", x.choice(0, NONE, 1, 0, 39), 2);
        is("4 the last year alone", x.choice(0, NONE, 1, 39, 39), 2);
        is("4 all years", x.choice(0, NONE, 2, 0, 39), 120);
        is("4 the last of all", x.choice(0, NONE, 2, 39, 39), 3);
        is("4 from one to one", x.choice(0, NONE, 3, 0, 39), 44);
        is("4 from it on", x.choice(0, NONE, 3, 10, 39), 44);
        is("4 a year later", x.choice(0, NONE, 3, 11, 39), 40);
        is("4 up to it", x.choice(0, NONE, 3, 20, 39), 4);
        is("4 behind it", x.choice(0, NONE, 3, 21, 39), 0);
        x.live(3, 15, 15, 10000000);
        is("4 one year anew, the most", x.choice(0, NONE, 3, 0, 39), 40 + 4995000);
    }

    private static void lifeFromAYearOn() {
        LearnLoans x = house(0);
        x.loan(0, 0, 0, 10000000, false);
        for (int year = 0; year < 5; year++) {
            x.earn(0, year, 9000000, 2 + year);
        }
        x.live(1, 0, 39, 10200);
        is("4 the whole by the life", x.choice(0, NONE, 1, 0, 39), 3000);
        is("4 owed as known ahead of it", x.choice(0, NONE, 1, 1, 39), 2900);
        is("4 two years as known", x.choice(0, NONE, 1, 2, 39), 2800);
        // 4495000 are taken in each of two years; of the third 1010000 are left.
        is("4 nothing is left behind three", x.choice(0, NONE, 1, 3, 39), 0);
        is("4 the third is not known yet", x.choice(0, NONE, 1, 3, 3), 2700);
        is("4 known in time", x.choice(0, NONE, 1, 3, 4), 0);
        is("4 nothing is known", x.choice(0, NONE, 1, 29, 0), 100);
    }

    /** No FIXED, no SCALE and no LAND in a TEXT; what it earns is no EARNINGS that are missing. */
    private static void lifeAtHome() {
        LearnLoans x = house(0);
        x.loan(0, 0, 0, 10000, false);
        x.land(0, 3, 0, 39);
        x.scale(3, 1);
        x.live(0, 2, 2, 10100);
        is("4 nothing but in 2", x.choice(0, NONE, 0, 0, 39), 50);
        is("4 no land's line", x.choice(0, NONE, 0, 2, 39), 0);
        x.loan(0, 0, 1, 10000, false);
        is("4 what fixed left of both", x.choice(0, NONE, 0, 1, 39), 50);
        LearnLoans y = house(0);
        y.act(0, 5, 0, 0, 0, 39);
        y.loan(0, 0, 0, 1000, false);
        y.land(0, 1, 0, 39);
        y.scale(1, 1);
        Scene.write(y, 0, "a*100+(e>0)*(e/1000)");
        y.live(1, 3, 3, 90000);
        // Abroad in 1, so that 100 come; at home in 2; 90 thousandths of 1100 come in 3.
        is("4 grown as the life and home tell", y.choice(0, NONE, 1, 2, 39), 1199);
        is("4 grown abroad in the year ahead", y.choice(0, NONE, 1, 1, 39), 1090);
        y.live(1, 2, 2, 10100);
        // 11 come in 2 and 50 are taken; of 1061 95 more are owed in 3.
        is("4 the line of home", y.choice(0, NONE, 1, 2, 2), 50 + 1156);
    }

    private static void lifeWithoutDying() {
        LearnLoans x = house(0);
        x.loan(0, 0, 0, 10000, false);
        x.loan(0, 0, 12, 700, false);
        x.dies(0, 10);
        x.live(0, 0, 39, 10200);
        is("4 from the year in which he died", x.choice(0, NONE, 0, 10, 39), 2700);
        is("4 from the year ahead", x.choice(0, NONE, 0, 9, 39), 2800);
        x.act(0, 3, 12, 0, 0, 39);
        is("4 struck by years still", x.choice(0, NONE, 0, 10, 39), 200 + 700);
    }

    /** Who DIED ahead of y stays dead: LOANS are STRUCK, those too that are drawn from y on. */
    private static void lifeBehindDying() {
        LearnLoans x = house(0);
        x.person(0);
        for (int person = 0; person < 2; person++) {
            x.loan(person, 0, 0, 10000, false);
            x.loan(person, 0, 11, 500, false);
            x.loan(person, 0, 12, 700, false);
        }
        x.live(0, 0, 39, 10200);
        x.image(0);
        x.dies(0, 10);
        is("4 in the year in which he died", x.choice(0, NONE, 0, 10, 39), 2000 + 1000);
        is("4 a year behind it", x.choice(0, NONE, 0, 11, 39), 0);
        is("4 of the other who did not", x.choice(1, NONE, 0, 11, 39), 1900 + 1000);
        is("4 two years behind it", x.choice(0, NONE, 0, 12, 39), 0);
        is("4 in another plan", x.choice(0, 1, 0, 11, 39), 0);
        is("4 many years behind it", x.choice(0, NONE, 0, 39, 39), 0);
        is("4 nothing known", x.choice(0, NONE, 0, 11, 0), 0);
        is("4 in that year again", x.choice(0, NONE, 0, 10, 39), 2000 + 1000);
        x.from(0);
        is("4 of the image he did not", x.choice(0, NONE, 0, 11, 39), 1900 + 1000);
        is("4 and may still", x.dies(0, 11), 1);
        is("4 from there on not looked at", x.choice(0, NONE, 0, 11, 39), 1900 + 1000);
        is("4 behind it he is", x.choice(0, NONE, 0, 12, 39), 0);
    }

    private static void lifeOfWhoDiedAtTheEnds() {
        int[] died = {0, 0, 38, 38, 39};
        int[] from = {0, 1, 38, 39, 39};
        long[] wants = {700, 0, 200, 0, 100};
        for (int i = 0; i < died.length; i++) {
            LearnLoans x = house(0);
            x.loan(0, 0, from[i], 700, false);
            x.live(2, 0, 39, 10200);
            x.dies(0, died[i]);
            is("4 died in " + died[i] + ", from " + from[i], x.choice(0, NONE, 2, from[i], 39), wants[i]);
        }
    }

    // ---- EARLY

    private static void earlyOrNot() {
        LearnLoans x = house(100);
        x.loan(0, 0, 0, 1000, false);
        for (int life = 0; life < 4; life++) {
            x.live(life, 2, 2, 90000);
        }
        is("4 1210 without", x.choice(0, NONE, 0, 1, 39), 1210);
        is("4 a penny and 1208", x.early(0, 1, 1, 39), 15);
        is("4 all and nothing", x.early(0, 1100, 1, 39), 15);
        is("4 a penny more than all", x.early(0, 1101, 1, 39), 15);
        is("4 more than the 1210", x.early(0, 1210, 1, 39), 15);
        is("4 the greatest sum", x.early(0, 1000000000, 1, 39), 15);
        is("4 as much as in the year", x.early(0, 500, 2, 39), 0);
        is("4 nothing is taken behind", x.early(0, 500, 3, 39), 0);
        x.live(1, 2, 2, 10000);
        is("4 not by life 1", x.early(0, 500, 1, 39), 13);
        x.live(0, 2, 2, 10000);
        x.live(3, 2, 2, 10000);
        is("4 by life 2 alone", x.early(0, 500, 1, 39), 4);
        is("4 nothing changed", x.owes(0, 2, 39, 0), 1210);
        LearnLoans y = house(0);
        y.loan(0, 0, 0, 1000, false);
        y.live(0, 2, 2, 90000);
        is("4 without growing it is as much", y.early(0, 500, 1, 39), 0);
        y.act(0, 2, 1, 0, 0, 39);
        is("4 a penny less of 1001 grows as much", y.early(0, 1, 1, 39), 0);
        is("4 two pence less grow less", y.early(0, 2, 1, 39), 1);
        is("4 not in its last year", y.early(0, 2, 2, 39), 0);
    }

    private static void earlyInYears() {
        LearnLoans x = house(100);
        x.act(0, 3, 60, 0, 0, 39);
        x.loan(0, 0, 0, 1000, false);
        x.loan(0, 0, 39, 1000, false);
        x.live(0, 0, 39, 10000);
        x.live(1, 1, 1, 90000);
        x.live(2, 39, 39, 10200);
        is("4 in the first year", x.early(0, 10, 0, 39), 2);
        is("4 all of it in the first, nothing is left by life 2 of this one", x.early(0, 1000, 0, 39), 2);
        is("4 in the last year", x.early(0, 10, 39, 39), 0);
        is("4 by ten pence taken too", x.early(0, 1, 38, 39), 0);
        LearnLoans y = house(100);
        y.loan(0, 0, 5, 1000, false);
        y.live(0, 6, 6, 90000);
        is("4 ahead of drawing nothing can be paid", y.early(0, 10, 4, 39), 0);
        is("4 when it is drawn it can", y.early(0, 10, 5, 39), 1);
        is("4 without loans", withPersons(1).early(0, 10, 0, 39), 0);
    }

    private static LearnLoans withPersons(int persons) {
        LearnLoans x = new LearnLoans();
        for (int i = 0; i < persons; i++) {
            x.person(0);
        }
        return x;
    }

    private static void earlyAsFarAsOwed() {
        LearnLoans x = house(100);
        x.act(1, 1, 0, 0, 0, 39);
        x.act(1, 2, 0, 0, 0, 39);
        x.loan(0, 1, 0, 1000, false);
        x.loan(0, 0, 0, 1000, false);
        x.live(0, 1, 1, 90000);
        is("4 1100 without", x.choice(0, NONE, 0, 0, 39), 1100);
        is("4 all of it goes to the first", x.early(0, 1000, 0, 39), 0);
        is("4 a penny to the second, 998 and 99 left", x.early(0, 1001, 0, 39), 0);
        x.act(0, 4, 1, 0, 0, 39);
        x.act(1, 4, 2, 0, 0, 39);
        is("4 to the second by order", x.early(0, 1000, 0, 39), 1);
        is("4 99 more than it", x.early(0, 1099, 0, 39), 1);
        is("4 100 more than it: as much", x.early(0, 1100, 0, 39), 0);
        x.act(0, 4, 2, 1, 0, 39);
        is("4 by the order of that year", x.early(0, 1000, 0, 39), 1);
    }

    private static void earlyBehindLeaving() {
        LearnLoans x = house(100);
        x.loan(0, 0, 0, 1000, true);
        x.leave(0, 1);
        x.live(0, 2, 2, 90000);
        // In 1 1100 less 500 are owed: 660 are taken in 2.
        is("4 660 without", x.choice(0, NONE, 0, 1, 39), 660);
        is("4 as far as there is behind leaving", x.early(0, 1000, 1, 39), 1);
        LearnLoans y = house(100);
        y.loan(0, 0, 0, 1000, false);
        y.act(0, 3, 1, 1, 0, 39);
        y.live(0, 1, 1, 90000);
        is("4 struck: nothing is paid", y.early(0, 1000, 1, 39), 0);
        is("4 ahead of it the whole is paid", y.early(0, 1000, 0, 39), 0);
        y.live(0, 0, 0, 12000);
        is("4 a part ahead of it is no help", y.early(0, 500, 0, 39), 0);
    }

    /** Nothing is owed by who DIED ahead of y, so that nothing is TAKEN that a sum could lessen. */
    private static void earlyBehindDying() {
        LearnLoans x = house(100);
        x.loan(0, 0, 6, 1000, false);
        for (int life = 0; life < 4; life++) {
            x.live(life, 7, 7, 90000);
        }
        is("4 as nobody died", x.early(0, 500, 6, 39), 15);
        x.image(0);
        x.dies(0, 5);
        is("4 died in 5, drawn and paid in 6", x.early(0, 500, 6, 39), 0);
        is("4 a penny more than is drawn", x.early(0, 1001, 6, 39), 0);
        is("4 in 5 there is nothing to pay", x.early(0, 500, 5, 39), 0);
        x.from(0);
        x.dies(0, 6);
        is("4 died in 6 itself", x.early(0, 500, 6, 39), 15);
        is("4 behind it", x.early(0, 500, 7, 39), 0);
        x.loan(0, 0, 8, 1000, false);
        x.live(1, 9, 9, 90000);
        is("4 in 6 as before", x.early(0, 500, 6, 39), 15);
        is("4 behind it for what is drawn later, too", x.early(0, 500, 8, 39), 0);
    }

    // ---- CHOICE

    private static void choiceOfPlans() {
        LearnLoans x = house(0);
        for (int plan = 1; plan < 5; plan++) {
            x.act(plan, 0, 10000, 0, 0, 39);
            x.act(plan, 1, 100 * plan, 0, 0, 39);
            x.act(plan, 2, 0, 0, 0, 39);
        }
        x.loan(0, 0, 0, 1000000, false);
        x.live(2, 4, 7, 11000);
        int[] parts = {500, 100, 200, 300, 400};
        for (int plan = 0; plan < 5; plan++) {
            is("4 plan " + plan, x.choice(0, plan, 2, 0, 39), 4 * parts[plan]);
            is("4 plan " + plan + " from 6 on", x.choice(0, plan, 2, 6, 39), 2 * parts[plan]);
        }
        is("4 as they are", x.choice(0, NONE, 2, 0, 39), 4 * 500);
        x.move(0, 3, 6);
        is("4 as they are moved", x.choice(0, NONE, 2, 0, 39), 2 * 500 + 2 * 300);
        is("4 one move for all that was told", x.choice(0, 1, 2, 0, 39), 4 * 100);
        is("4 the moves are as they were", x.planOf(0, 39), 3);
        is("4 none came", x.count(3), 1);
        x.act(4, 3, 6, 0, 0, 39);
        is("4 struck by the years of that plan", x.choice(0, 4, 2, 5, 39), 400);
        is("4 at once", x.choice(0, 4, 2, 6, 39), 0);
        is("4 in time", x.choice(0, 4, 2, 0, 39), 2 * 400);
    }

    private static void choiceOfPlansInAll() {
        LearnLoans x = house(0);
        x.person(0);
        x.act(1, 0, 10000, 0, 0, 39);
        x.act(1, 1, 1000, 0, 0, 39);
        x.act(1, 2, 0, 0, 0, 39);
        x.loan(0, 0, 0, 1000, false);
        x.loan(0, 2, 3, 5000, false);
        x.loan(1, 0, 0, 7000, false);
        x.live(0, 0, 39, 10100);
        is("4 as they are", x.choice(0, NONE, 0, 0, 39), 1000);
        // Ten years of the first, then 23 till the second is struck.
        is("4 all of his, those drawn later too", x.choice(0, 1, 0, 0, 39), 3300);
        is("4 not another's", x.choice(1, 1, 0, 0, 39), 3000);
        is("4 the last year alone", x.choice(0, 1, 0, 39, 39), 0);
        is("4 the year ahead of striking", x.choice(0, 1, 0, 32, 39), 100);
        is("4 known ahead or not", x.choice(0, 1, 0, 32, 0), 100);
    }

    // ---- CHANCES

    /** WORK takes 10000, GAP nothing, ABROAD 700. */
    private static LearnLoans foretellable() {
        LearnLoans x = house(0);
        x.act(0, 3, 60, 0, 0, 39);
        x.act(0, 5, 700, 0, 0, 39);
        x.loan(0, 0, 0, 100000, false);
        return x;
    }

    private static void foretells(String what, LearnLoans x, int state, int y, int n, long... wants) {
        String[] names = {"the mean", "the least", "the greatest", "never"};
        for (int i = 0; i < 4; i++) {
            is("4 " + what + ": " + names[i], x.foretold(0, state, 30000, y, n, i), wants[i]);
        }
    }

    private static void chancesAtFirst() {
        LearnLoans x = foretellable();
        int[] takes = {10000, 0, 700, 0};
        long tens = 1;
        for (int n = 1; n <= 5; n++) {
            for (int state = 0; state < 4; state++) {
                long taken = n * takes[state];
                foretells(n + " years of state " + state, x, state, 5, n,
                    taken * tens, taken, taken, (100000 - taken) * tens);
            }
            tens *= 10;
        }
        foretells("from the first year", x, 0, 0, 5, 500000000, 50000, 50000, 500000000);
        foretells("to the last year", x, 0, 35, 5, 500000000, 50000, 50000, 500000000);
        foretells("the last year", x, 0, 39, 1, 10000, 10000, 10000, 90000);
        is("4 nothing earned", x.foretold(0, 0, 0, 5, 1, MEAN), 0);
        is("4 the line earned", x.foretold(0, 0, 10000, 5, 1, MEAN), 0);
        is("4 two pence more", x.foretold(0, 0, 10002, 5, 1, MEAN), 1);
        is("4 all of it", x.foretold(0, 0, 10000000, 5, 1, NEVER), 0);
    }

    private static void chancesOfAll() {
        LearnLoans x = foretellable();
        x.chances(0, 1, 2, 3, 4);
        foretells("one year needs no chance", x, 0, 5, 1, 10000, 10000, 10000, 90000);
        foretells("from work", x, 0, 5, 2, 112100, 10000, 20000, 887900);
        foretells("from gap as at first", x, 1, 5, 2, 0, 0, 0, 1000000);
        x.chances(1, 4, 3, 2, 1);
        foretells("from gap", x, 1, 5, 2, 41400, 0, 10000, 958600);
        x.chances(2, 0, 9, 0, 1);
        foretells("from abroad", x, 2, 5, 2, 7000, 700, 700, 993000);
        x.chances(2, 1, 9, 0, 0);
        foretells("told anew", x, 2, 5, 2, 17000, 700, 10700, 983000);
        foretells("dead", x, 3, 5, 2, 0, 0, 0, 1000000);
        // Each way on counts as often as its chance: by hand from the two years behind the first.
        foretells("three years from gap", x, 1, 5, 3,
            4 * (100000 + 1 * 10000 + 3 * 700) + 3 * 41400 + 2 * (7000 + 10000), 0, 20000,
            10000000 - (4 * 112100 + 3 * 41400 + 2 * 17000));
    }

    private static void chancesWithoutOne() {
        LearnLoans x = foretellable();
        x.chances(0, 0, 10, 0, 0);
        foretells("no way leads to more", x, 0, 5, 2, 100000, 10000, 10000, 900000);
        x.chances(0, 1, 9, 0, 0);
        foretells("one in ten does", x, 0, 5, 2, 110000, 10000, 20000, 890000);
        x.chances(0, 10, 0, 0, 0);
        foretells("none leads to less", x, 0, 5, 2, 200000, 20000, 20000, 800000);
        x.chances(0, 9, 0, 0, 1);
        foretells("one in ten does, dead", x, 0, 5, 2, 190000, 10000, 20000, 810000);
        x.chances(0, 0, 0, 10, 0);
        x.chances(2, 0, 0, 0, 10);
        foretells("one way", x, 0, 5, 3, 1070000, 10700, 10700, 8930000);
        x.chances(1, 10, 0, 0, 0);
        foretells("a way that can not begin", x, 0, 5, 3, 1070000, 10700, 10700, 8930000);
    }

    private static void chancesOfFiveYears() {
        LearnLoans x = foretellable();
        x.chances(0, 7, 1, 1, 1);
        x.chances(1, 1, 7, 1, 1);
        x.chances(2, 1, 1, 7, 1);
        is("4 the least of 256 ways", x.foretold(0, 0, 30000, 5, 5, LEAST), 10000);
        is("4 the greatest", x.foretold(0, 0, 30000, 5, 5, GREATEST), 50000);
        is("4 taken or never", x.foretold(0, 0, 30000, 5, 5, MEAN) + x.foretold(0, 0, 30000, 5, 5, NEVER),
            1000000000L);
        // The chance to WORK, GAP, ABROAD in each year: 1 0 0; 7 1 1; 51 15 15; 387 171 171;
        // 3051 1755 1755.
        is("4 the mean of five years", x.foretold(0, 0, 30000, 5, 5, MEAN),
            10000L * (10000 + 7 * 1000 + 51 * 100 + 387 * 10 + 3051)
                + 700L * (1000 + 15 * 100 + 171 * 10 + 1755));
        is("4 from abroad", x.foretold(0, 2, 30000, 5, 5, LEAST), 700);
        is("4 from abroad at most", x.foretold(0, 2, 30000, 5, 5, GREATEST), 40700);
        LearnLoans y = new LearnLoans();
        y.person(0);
        for (int i = 0; i < 30; i++) {
            y.loan(0, 0, 0, 10000000, false);
        }
        y.act(0, 2, 500, 0, 0, 39);
        y.act(0, 3, 60, 0, 0, 39);
        is("4 the greatest never", y.foretold(0, 1, 0, 35, 5, NEVER), 300000000000000000L);
    }

    private static void deadStaysSo() {
        LearnLoans x = foretellable();
        x.act(0, 2, 100, 0, 0, 39);
        x.chances(0, 0, 0, 0, 10);
        // Owed in 1: 110000, taken 10000; dead in 2 ahead of growing.
        foretells("dead in the second", x, 0, 1, 2, 100000, 10000, 10000, 1000000);
        foretells("dead in the second and third", x, 0, 1, 3, 1000000, 10000, 10000, 10000000);
        foretells("dead at once", x, 3, 1, 3, 0, 0, 0, 10000000);
        is("4 of the dead no chances are told", x.chances(3, 10, 0, 0, 0), BAD);
        foretells("he stays so", x, 3, 1, 2, 0, 0, 0, 1000000);
    }

    private static void struckInTheYearsForetold() {
        LearnLoans x = foretellable();
        x.act(0, 3, 7, 0, 0, 39);
        foretells("ahead of striking", x, 1, 6, 1, 0, 0, 0, 100000);
        foretells("struck in the second", x, 0, 6, 2, 100000, 10000, 10000, 900000);
        foretells("struck in the first", x, 0, 7, 2, 0, 0, 0, 1000000);
        foretells("struck ahead", x, 0, 8, 2, 0, 0, 0, 0);
        x.loan(0, 0, 6, 5000, false);
        foretells("one struck, one owed", x, 0, 6, 2, 150000, 15000, 15000, 900000);
        foretells("another person's is none of it", personMore(x), 0, 6, 2, 150000, 15000, 15000, 900000);
    }

    private static LearnLoans personMore(LearnLoans x) {
        x.person(0);
        x.loan(1, 0, 6, 5000, false);
        return x;
    }

    private static void drawnInTheYearsForetold() {
        LearnLoans x = foretellable();
        x.loan(0, 0, 6, 2000, true);
        foretells("not drawn yet", x, 1, 5, 1, 0, 0, 0, 100000);
        foretells("drawn in the second", x, 1, 5, 2, 0, 0, 0, 1020000);
        foretells("never drawn by the dead", x, 3, 5, 2, 0, 0, 0, 1000000);
        x.leave(1, 7);
        foretells("given back in the third", x, 1, 5, 3, 0, 0, 0, 10100000);
        x.move(0, 1, 6);
        x.act(1, 2, 0, 0, 0, 39);
        x.act(1, 5, 900, 0, 0, 39);
        foretells("moved in the second", x, 2, 5, 2, 16000, 1600, 1600, 1004000);
    }

    private static void foretoldBehindTheRun() {
        LearnLoans x = foretellable();
        x.earn(0, 4, 50000, 39);
        x.earn(0, 5, 90000, 5);
        x.land(0, 2, 0, 5);
        // FIXED in 0 to 3, 20000 in 4 as known at 39; what is told of 5 is not looked at.
        foretells("the run ahead", x, 1, 5, 1, 0, 0, 0, 100000 - 2800 - 20000);
        foretells("in work", x, 0, 5, 1, 10000, 10000, 10000, 67200);
        x.dies(0, 5);
        foretells("who died in 5", x, 0, 5, 1, 10000, 10000, 10000, 67200);
        foretells("who died ahead of 6", x, 0, 6, 1, 0, 0, 0, 0);
        foretells("who will die in 5", x, 1, 4, 2, 0, 0, 0, 972000);
    }

    // ---- TRIED, BEST

    private static void triedOfEachNumber() {
        LearnLoans x = house(0);
        x.act(1, 0, 15000, 0, 0, 39);
        x.act(1, 1, 1000, 0, 0, 39);
        x.act(1, 2, 0, 0, 0, 39);
        x.loan(0, 0, 0, 4000, false);
        x.loan(0, 1, 0, 4000, false);
        x.earn(0, 5, 17000, 39);
        x.land(0, 1, 6, 6);
        is("4 of both", x.tried(0, 0, 10000, 0, 5), 3500);
        is("4 the line", x.tried(0, 0, 9998, 0, 5), 3501);
        is("4 the part", x.tried(0, 1, 0, 0, 5), 2000);
        is("4 the rate", x.tried(0, 2, 500, 0, 5), 3500);
        is("4 the rate of what is small", x.tried(0, 1, 1000, 0, 5), 4000);
        is("4 the years", x.tried(0, 3, 5, 0, 5), 2000);
        is("4 the years, one more", x.tried(0, 3, 6, 0, 5), 3500);
        x.act(0, 1, 100, 5, 0, 39);
        is("4 the first of it", x.tried(0, 4, 0, 0, 5), 2000);
        is("4 the second ahead of it", x.tried(0, 4, 1, 0, 5), 2000);
        x.act(1, 0, 16500, 5, 0, 39);
        is("4 the one goes off the other", x.tried(0, 4, 1, 0, 5), 700);
        is("4 fixed", x.tried(0, 5, 0, 0, 6), 4000);
        is("4 fixed of both", x.tried(1, 5, 0, 0, 6), 3300);
    }

    private static void triedWithActs() {
        LearnLoans x = house(0);
        x.loan(0, 0, 0, 1000000, false);
        for (int year = 0; year < 40; year++) {
            x.earn(0, year, 20000, year);
        }
        is("4 a year ahead", x.tried(0, 0, 0, 6, 5), 5000);
        is("4 from that year", x.tried(0, 0, 0, 5, 5), 10000);
        is("4 from the first to the last", x.tried(0, 1, 0, 0, 29), 0);
        x.act(0, 3, 60, 0, 0, 39);
        is("4 in the last year", x.tried(0, 0, 0, 39, 39), 10000);
        is("4 in the first year", x.tried(0, 0, 0, 0, 0), 10000);
        x.act(0, 0, 12000, 10, 0, 39);
        is("4 ahead of a later act", x.tried(0, 0, 0, 5, 9), 10000);
        is("4 which comes into force as ever", x.tried(0, 0, 0, 5, 10), 4000);
        is("4 behind one of the same year", x.tried(0, 0, 0, 10, 10), 10000);
        is("4 of a later year", x.tried(0, 0, 0, 11, 11), 10000);
        is("4 of another plan", x.tried(1, 0, 0, 0, 10), 4000);
        is("4 nothing changed", x.owes(0, 10, 39, 1), 4000);
        is("4 no act came", x.count(2), 5);
        is("4 an act comes as the next", x.act(0, 0, 0, 39, 0, 39), 5);
    }

    private static void triedOfAll() {
        is("4 of nobody", new LearnLoans().tried(0, 0, 0, 0, 0), 0);
        is("4 of who has no loans", withPersons(12).tried(0, 0, 0, 0, 0), 0);
        LearnLoans x = withPersons(12);
        for (int i = 0; i < 12; i++) {
            x.loan(i, 0, 0, 1000000, false);
            x.earn(i, 0, 1 << i, 39);
        }
        is("4 of all twelve, for all", x.tried(0, 1, 1000, 0, 0), 0);
        x.act(0, 1, 1000, 0, 0, 39);
        is("4 as known at 39", x.tried(0, 0, 0, 0, 0), 4095);
        is("4 as known at 38 nothing", x.all(11, 0, 38, 1), 0);
        LearnLoans y = new LearnLoans();
        y.person(0);
        y.person(39);
        y.loan(0, 0, 0, 10, false);
        y.loan(1, 0, 0, 20, false);
        y.act(0, 5, 3, 0, 0, 0);
        y.act(0, 5, 4, 0, 39, 39);
        y.land(0, 1, 0, 0);
        y.land(1, 1, 0, 0);
        is("4 for who began in the first and the last", y.tried(0, 5, 15, 0, 0), 25);
    }

    /** 20000 earned in 5; half of what is above the line is TAKEN. */
    private static LearnLoans asked(int... numbers) {
        LearnLoans x = house(0);
        x.loan(0, 0, 0, 1000000, false);
        x.earn(0, 5, 20000, 39);
        for (int v : numbers) {
            x.tell(v);
        }
        return x;
    }

    private static void bestAsAsked() {
        LearnLoans x = asked(16000, 4000, 0);
        is("4 the nearest", x.best(0, 0, 0, 5, 0, 2000), 4000);
        is("4 as much as asked", x.best(0, 0, 0, 5, 0, 8000), 4000);
        is("4 a penny more is asked", x.best(0, 0, 0, 5, 0, 8001), 0);
        is("4 as much as by the least", x.best(0, 0, 0, 5, 0, 10000), 0);
        is("4 more than by any", x.best(0, 0, 0, 5, 0, 10001), NONE);
        is("4 nothing asked", x.best(0, 0, 0, 5, 0, 0), 4000);
        is("4 less than nothing", x.best(0, 0, 0, 5, 0, -1), 4000);
        is("4 the least long", x.best(0, 0, 0, 5, 0, Long.MIN_VALUE), 4000);
        is("4 the greatest long", x.best(0, 0, 0, 5, 0, Long.MAX_VALUE), NONE);
        is("4 from a year behind the one asked", x.best(0, 0, 6, 5, 0, 5000), 4000);
        is("4 then nothing else comes of it", x.best(0, 0, 6, 5, 0, 5001), NONE);
        is("4 from that year", x.best(0, 0, 5, 5, 0, 5001), 4000);
        x.act(0, 0, 15000, 5, 0, 39);
        is("4 what is in force that year", x.best(0, 0, 5, 5, 0, 0), 16000);
        is("4 and the year ahead", x.best(0, 0, 0, 4, 0, 0), 4000);
        is("4 the number itself is nearest", asked(9999, 10000, 10001).best(0, 0, 0, 5, 0, 0), 10000);
    }

    private static void bestOfLikeOnes() {
        is("4 of like ones the least, told last", asked(10007, 9993).best(0, 0, 0, 5, 0, 0), 9993);
        is("4 of like ones the least, told first", asked(9993, 10007).best(0, 0, 0, 5, 0, 0), 9993);
        is("4 a penny nearer above", asked(9993, 10006).best(0, 0, 0, 5, 0, 0), 10006);
        is("4 a penny nearer below", asked(10007, 9994).best(0, 0, 0, 5, 0, 0), 9994);
        is("4 of those that are no less than asked", asked(9993, 10007).best(0, 0, 0, 5, 0, 5000), 9993);
        is("4 told twice", asked(10007, 10007).best(0, 0, 0, 5, 0, 0), 10007);
        LearnLoans x = asked(5000, 25000);
        x.person(7);
        x.act(0, 0, 20000, 0, 7, 7);
        is("4 by who began in 0", x.best(0, 0, 0, 5, 0, 0), 5000);
        is("4 by who began in 7", x.best(0, 0, 0, 5, 1, 0), 25000);
        is("4 whose loans count or not", x.best(0, 0, 0, 5, 1, 1), 5000);
    }

    private static void bestOfNumbersThatAreSome() {
        int[] least = {0, 0, 0, 1, 0, 0};
        int[] most = {10000000, 1000, 500, 60, 9, 1000000};
        for (int what = 0; what < 6; what++) {
            is("4 the least of " + what, asked(least[what]).best(0, what, 0, 5, 0, -1), least[what]);
            is("4 the most of " + what, asked(most[what]).best(0, what, 0, 5, 0, -1), most[what]);
            if (what > 0) {
                is("4 above " + what, asked(most[what] + 1).best(0, what, 0, 5, 0, -1), NONE);
            }
        }
        is("4 below 3", asked(0).best(0, 3, 0, 5, 0, -1), NONE);
        is("4 the nearer one is none", asked(1001, 5).best(0, 1, 0, 5, 0, -1), 5);
        is("4 the farther one is none", asked(1000, 10000000).best(0, 1, 0, 5, 0, -1), 1000);
    }

    private static void nineNumbers() {
        LearnLoans x = asked();
        is("4 none was told", x.best(0, 0, 0, 5, 0, -1), NONE);
        for (int i = 1; i <= 9; i++) {
            is("4 told", x.tell(2000 + 1000 * i - (i == 9 ? 1 : 0)), i);
            is("4 the last told is nearest", x.best(0, 0, 0, 5, 0, -1), i == 9 ? 10000 : 2000 + 1000 * i);
        }
        is("4 the tenth is refused", x.tell(10001), FULL);
        is("4 the ninth counts", x.best(0, 0, 0, 5, 0, -1), 10000);
        x.untell();
        is("4 none is told any more", x.best(0, 0, 0, 5, 0, -1), NONE);
        is("4 the first again", x.tell(10000000), 1);
        is("4 it counts alone", x.best(0, 0, 0, 5, 0, -1), 10000000);
    }
}
