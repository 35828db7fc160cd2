/** The document's promises 1 to 38, one by one, with answers worked out by hand from its words. */
public final class PromisesTest {
    private static final int NONE = -1, BAD = -2, NO = -3, FULL = -4;
    private static final int BIG = 2147483647;
    private static final Due due = new Due();

    public static void main(String[] args) {
        newObject();
        person();
        land();
        scale();
        prices();
        dies();
        earn();
        right();
        earnings();
        act();
        force();
        loan();
        leave();
        move();
        planOf();
        owes();
        all();
        rate();
        over();
        write();
        erase();
        fault();
        sell();
        promise();
        book();
        live();
        early();
        choice();
        chances();
        foretold();
        tried();
        tell();
        untell();
        best();
        image();
        from();
        count();
        digest();
        due.end("PromisesTest");
    }

    private static void is(String call, long got, long want) {
        due.is(call, got, want);
    }

    /** One PERSON who began in YEAR 0, and plan 0: LINE 10000, PART 500, RATE as told. */
    private static LearnLoans house(int rate) {
        LearnLoans x = new LearnLoans();
        x.person(0);
        x.act(0, 0, 10000, 0, 0, 39);
        x.act(0, 1, 500, 0, 0, 39);
        x.act(0, 2, rate, 0, 0, 39);
        return x;
    }

    private static void write(LearnLoans x, int plan, String text) {
        x.erase(plan);
        for (int i = 0; i < text.length(); i++) {
            x.write(plan, text.charAt(i));
        }
    }

    // ---- 1
    private static void newObject() {
        LearnLoans x = new LearnLoans();
        for (int what = 0; what <= 5; what++) {
            is("1 count(" + what + ")", x.count(what), 0);
        }
        long h = 347;
        for (int i = 0; i < 11; i++) {
            h *= 31;
        }
        is("1 digest", x.digest(), h);
        for (int i = 0; i < 4; i++) {
            is("1 scale", x.scale(i, 7), 1000);
        }
        is("1 prices", x.prices(39, 5), 0);
        is("1 fault", x.fault(4), 1);
        is("1 from", x.from(1), NO);
        is("1 untell", x.untell(), 0);
        LearnLoans y = new LearnLoans();
        is("1 each object is its own", y.scale(0, 1), 1000);
    }

    // ---- 2
    private static void person() {
        LearnLoans x = new LearnLoans();
        is("2 too early", x.person(-1), BAD);
        is("2 too late", x.person(40), BAD);
        for (int i = 0; i < 12; i++) {
            is("2 person", x.person(i == 0 ? 39 : i), i);
        }
        is("2 the 13th", x.person(0), FULL);
        is("2 bad ahead of full", x.person(BIG), BAD);
        is("2 how many", x.count(0), 12);
    }

    // ---- 3
    private static void land() {
        LearnLoans x = house(0);
        x.loan(0, 0, 0, 100000, false);
        is("3 land", x.land(0, 3, 2, 4), 1);
        is("3 home before", x.owes(0, 1, 39, 1), 0);
        is("3 from", x.owes(0, 2, 39, 1), 10000);
        is("3 to", x.owes(0, 4, 39, 1), 10000);
        is("3 home behind", x.owes(0, 5, 39, 1), 0);
        is("3 home again", x.land(0, 0, 3, 3), 1);
        is("3 told anew", x.owes(0, 3, 39, 1), 0);
        is("3 all years", x.land(0, 1, 0, 39), 1);
        is("3 last year", x.all(0, 29, 39, 3), 100000);
        is("3 no such person", x.land(1, 0, 0, 0), BAD);
        is("3 person -1", x.land(-1, 0, 0, 0), BAD);
        is("3 land 4", x.land(0, 4, 0, 0), BAD);
        is("3 land -1", x.land(0, -1, 0, 0), BAD);
        is("3 from -1", x.land(0, 0, -1, 0), BAD);
        is("3 to 40", x.land(0, 0, 0, 40), BAD);
        is("3 to ahead of from", x.land(0, 0, 5, 4), BAD);
        is("3 nothing changed", x.owes(0, 4, 39, 1), 10000);
    }

    // ---- 4
    private static void scale() {
        LearnLoans x = house(0);
        x.loan(0, 0, 0, 100000, false);
        x.earn(0, 0, 30000, 0);
        x.land(0, 1, 0, 0);
        is("4 at first", x.owes(0, 0, 39, 1), 10000);
        is("4 scale", x.scale(1, 500), 1000);
        is("4 line 5000", x.owes(0, 0, 39, 1), 12500);
        is("4 what it was", x.scale(1, 5000), 500);
        is("4 line 50000", x.owes(0, 0, 39, 1), 0);
        x.scale(1, 1);
        is("4 line 10", x.owes(0, 0, 39, 1), 14995);
        x.land(0, 0, 0, 0);
        is("4 home's scale", x.scale(0, 1), 1000);
        is("4 home's line stays", x.owes(0, 0, 39, 1), 10000);
        is("4 too low", x.scale(1, 0), BAD);
        is("4 too high", x.scale(1, 5001), BAD);
        is("4 land 4", x.scale(4, 1), BAD);
        is("4 land -1", x.scale(-1, 1), BAD);
        is("4 nothing changed", x.scale(1, 2), 1);
        LearnLoans z = new LearnLoans();
        z.person(0);
        z.act(0, 0, 1999, 0, 0, 39);
        z.act(0, 1, 1000, 0, 0, 39);
        z.loan(0, 0, 0, 100000, false);
        z.earn(0, 0, 3000, 0);
        z.land(0, 2, 0, 0);
        z.scale(2, 999);
        is("4 the line is cut", z.owes(0, 0, 0, 1), 1003);
    }

    // ---- 5
    private static void prices() {
        LearnLoans x = house(0);
        x.loan(0, 0, 0, 100000, false);
        write(x, 0, "p+100");
        is("5 prices", x.prices(3, -100), 0);
        is("5 lowest", x.rate(0, 3, 39), 0);
        is("5 what they were", x.prices(3, 500), -100);
        is("5 greatest", x.rate(0, 3, 39), 500);
        is("5 other years", x.rate(0, 4, 39), 100);
        is("5 too low", x.prices(3, -101), -1000);
        is("5 too high", x.prices(3, 501), -1000);
        is("5 year -1", x.prices(-1, 0), -1000);
        is("5 year 40", x.prices(40, 0), -1000);
        is("5 nothing changed", x.prices(3, 0), 500);
    }

    // ---- 6
    private static void dies() {
        LearnLoans x = house(100);
        x.loan(0, 0, 0, 100000, false);
        x.loan(0, 0, 3, 7000, false);
        x.loan(0, 0, 4, 5000, false);
        is("6 dies", x.dies(0, 3), 1);
        is("6 owed ahead", x.owes(0, 2, 39, 0), 121000);
        is("6 struck ahead of growing", x.owes(0, 3, 39, 2), 121000);
        is("6 not grown", x.owes(0, 3, 39, 4), 0);
        is("6 gone", x.owes(0, 3, 39, 0), 0);
        is("6 drawn in that year", x.owes(1, 3, 39, 0), 0);
        is("6 drawn behind", x.owes(2, 39, 39, 0), 0);
        is("6 nothing to strike", x.owes(2, 5, 39, 2), 0);
        is("6 once", x.dies(0, 5), NO);
        is("6 year 40", x.dies(0, 40), BAD);
        is("6 year -1", x.dies(0, -1), BAD);
        is("6 no such person", x.dies(1, 3), BAD);
        x.person(1);
        is("6 year 0", x.dies(1, 0), 1);
        is("6 no again", x.dies(1, 39), NO);
    }

    // ---- 7
    private static void earn() {
        LearnLoans x = house(0);
        is("7 known ahead", x.earn(0, 4, 5, 3), BAD);
        is("7 known in it", x.earn(0, 4, 10000000, 4), 1);
        is("7 told", x.earn(0, 4, 5, 4), NO);
        is("7 bad ahead of told", x.earn(0, 4, -1, 4), BAD);
        is("7 nothing", x.earn(0, 0, 0, 39), 1);
        is("7 too much", x.earn(0, 1, 10000001, 1), BAD);
        is("7 below 0", x.earn(0, 1, -1, 1), BAD);
        is("7 year -1", x.earn(0, -1, 1, 1), BAD);
        is("7 year 40", x.earn(0, 40, 1, 40), BAD);
        is("7 known in 40", x.earn(0, 1, 1, 40), BAD);
        is("7 no such person", x.earn(1, 1, 1, 1), BAD);
        is("7 the number", x.earnings(0, 4, 4), 10000000);
        is("7 nothing is a number", x.earnings(0, 0, 39), 0);
        is("7 not yet", x.earnings(0, 0, 38), NONE);
    }

    // ---- 8
    private static void right() {
        LearnLoans x = house(0);
        is("8 not told yet", x.right(0, 2, 5, 39), NO);
        is("8 not told yet, known ahead of the year", x.right(0, 2, 5, 0), NO);
        x.earn(0, 2, 100, 5);
        is("8 known too early", x.right(0, 2, 200, 4), BAD);
        is("8 too much", x.right(0, 2, 10000001, 5), BAD);
        is("8 below 0", x.right(0, 2, -1, 5), BAD);
        is("8 known in 40", x.right(0, 2, 1, 40), BAD);
        is("8 year 40", x.right(0, 40, 1, 39), BAD);
        is("8 no such person", x.right(1, 2, 1, 39), BAD);
        is("8 put right in the same year", x.right(0, 2, 300, 5), 1);
        is("8 the later told", x.earnings(0, 2, 5), 300);
        is("8 none ahead", x.earnings(0, 2, 4), NONE);
        is("8 once", x.right(0, 2, 400, 9), NO);
        is("8 bad ahead of no", x.right(0, 2, 400, 4), BAD);
        is("8 nothing changed", x.earnings(0, 2, 39), 300);
    }

    // ---- 9
    private static void earnings() {
        LearnLoans x = house(0);
        is("9 none", x.earnings(0, 3, 39), NONE);
        x.earn(0, 3, 70, 4);
        x.right(0, 3, 60, 8);
        is("9 ahead", x.earnings(0, 3, 3), NONE);
        is("9 first", x.earnings(0, 3, 4), 70);
        is("9 still first", x.earnings(0, 3, 7), 70);
        is("9 right", x.earnings(0, 3, 8), 60);
        is("9 right at 39", x.earnings(0, 3, 39), 60);
        is("9 other year", x.earnings(0, 4, 39), NONE);
        is("9 no such person", x.earnings(1, 3, 8), BAD);
        is("9 person -1", x.earnings(-1, 3, 8), BAD);
        is("9 year 40", x.earnings(0, 40, 8), BAD);
        is("9 k 40", x.earnings(0, 3, 40), BAD);
        is("9 k -1", x.earnings(0, 3, -1), BAD);
    }

    // ---- 10
    private static void act() {
        LearnLoans x = new LearnLoans();
        int[] least = {0, 0, 0, 1, 0, 0};
        int[] most = {10000000, 1000, 500, 60, 9, 1000000};
        for (int what = 0; what < 6; what++) {
            is("10 least of " + what, x.act(4, what, least[what], 0, 0, 39), 2 * what);
            is("10 most of " + what, x.act(4, what, most[what], 39, 39, 39), 2 * what + 1);
            is("10 below " + what, x.act(4, what, least[what] - 1, 0, 0, 39), BAD);
            is("10 above " + what, x.act(4, what, most[what] + 1, 0, 0, 39), BAD);
        }
        is("10 plan 5", x.act(5, 0, 1, 0, 0, 39), BAD);
        is("10 plan -1", x.act(-1, 0, 1, 0, 0, 39), BAD);
        is("10 what 6", x.act(0, 6, 1, 0, 0, 39), BAD);
        is("10 what -1", x.act(0, -1, 1, 0, 0, 39), BAD);
        is("10 from 40", x.act(0, 0, 1, 40, 0, 39), BAD);
        is("10 from -1", x.act(0, 0, 1, -1, 0, 39), BAD);
        is("10 began from -1", x.act(0, 0, 1, 0, -1, 39), BAD);
        is("10 began to 40", x.act(0, 0, 1, 0, 0, 40), BAD);
        is("10 began to ahead of from", x.act(0, 0, 1, 0, 5, 4), BAD);
        for (int i = 12; i < 60; i++) {
            is("10 act", x.act(0, 0, i, 0, 0, 39), i);
        }
        is("10 the 61st", x.act(0, 0, 1, 0, 0, 39), FULL);
        is("10 bad ahead of full", x.act(0, 0, -1, 0, 0, 39), BAD);
        is("10 how many", x.count(2), 60);
    }

    // ---- 11
    private static void force() {
        LearnLoans x = new LearnLoans();
        x.person(5);
        x.person(9);
        int[] first = {2000000, 90, 30, 30, 0, 10000};
        for (int what = 0; what < 6; what++) {
            is("11 at first", x.force(4, what, 0, 39), first[what]);
        }
        x.act(1, 0, 700, 10, 0, 39);
        x.act(1, 0, 600, 5, 0, 39);
        x.act(1, 0, 500, 10, 5, 5);
        x.act(1, 0, 400, 20, 6, 9);
        x.act(1, 0, 300, 5, 0, 8);
        is("11 ahead of all", x.force(1, 0, 0, 4), 2000000);
        is("11 of like years the greatest number", x.force(1, 0, 0, 5), 300);
        is("11 who began later", x.force(1, 0, 1, 5), 600);
        is("11 the latest year, not the latest told", x.force(1, 0, 1, 10), 700);
        is("11 told later for who began in 5", x.force(1, 0, 0, 10), 500);
        is("11 not for who began in 5", x.force(1, 0, 0, 39), 500);
        is("11 for who began in 9", x.force(1, 0, 1, 20), 400);
        is("11 other plan", x.force(0, 0, 0, 39), 2000000);
        is("11 other number", x.force(1, 1, 0, 39), 90);
        is("11 plan 5", x.force(5, 0, 0, 0), BAD);
        is("11 plan -1", x.force(-1, 0, 0, 0), BAD);
        is("11 what 6", x.force(0, 6, 0, 0), BAD);
        is("11 what -1", x.force(0, -1, 0, 0), BAD);
        is("11 no such person", x.force(0, 0, 2, 0), BAD);
        is("11 year 40", x.force(0, 0, 0, 40), BAD);
        is("11 year -1", x.force(0, 0, 0, -1), BAD);
    }

    // ---- 12
    private static void loan() {
        LearnLoans x = house(0);
        is("12 no such person", x.loan(1, 0, 0, 1, false), BAD);
        is("12 plan 5", x.loan(0, 5, 0, 1, false), BAD);
        is("12 plan -1", x.loan(0, -1, 0, 1, false), BAD);
        is("12 year 40", x.loan(0, 0, 40, 1, false), BAD);
        is("12 year -1", x.loan(0, 0, -1, 1, false), BAD);
        is("12 nothing", x.loan(0, 0, 0, 0, false), BAD);
        is("12 too much", x.loan(0, 0, 0, 10000001, false), BAD);
        is("12 least", x.loan(0, 0, 0, 1, true), 0);
        is("12 most", x.loan(0, 4, 39, 10000000, false), 1);
        is("12 owed when drawn", x.owes(1, 39, 39, 0), 10000000);
        is("12 not ahead", x.owes(1, 38, 39, 0), 0);
        for (int i = 2; i < 30; i++) {
            is("12 loan", x.loan(0, 0, 0, 1, false), i);
        }
        is("12 the 31st", x.loan(0, 0, 0, 1, false), FULL);
        is("12 bad ahead of full", x.loan(0, 0, 0, 0, false), BAD);
        is("12 how many", x.count(1), 30);
    }

    // ---- 13
    private static void leave() {
        LearnLoans x = house(100);
        x.loan(0, 0, 2, 10001, true);
        x.loan(0, 0, 2, 10001, true);
        x.loan(0, 0, 2, 10001, true);
        x.loan(0, 0, 2, 10001, false);
        is("13 no fee", x.leave(3, 2), BAD);
        is("13 too early", x.leave(0, 1), BAD);
        is("13 no such loan", x.leave(4, 2), BAD);
        is("13 loan -1", x.leave(-1, 2), BAD);
        is("13 year 40", x.leave(0, 40), BAD);
        is("13 in the year", x.leave(0, 2), 7500);
        is("13 in the next", x.leave(1, 3), 5000);
        is("13 later", x.leave(2, 4), 0);
        is("13 once", x.leave(0, 3), NO);
        is("13 later, once", x.leave(2, 4), NO);
        is("13 too early ahead of no", x.leave(0, 1), BAD);
        is("13 goes off when drawn", x.owes(0, 2, 39, 0), 2501);
        is("13 goes off behind growing", x.owes(1, 3, 39, 0), 6001);
        is("13 of the sum, grown in full", x.owes(1, 3, 39, 4), 1000);
        is("13 nothing goes off", x.owes(2, 4, 39, 0), 12101);
        LearnLoans y = house(0);
        y.loan(0, 0, 0, 10000, true);
        y.earn(0, 0, 26000, 0);
        y.leave(0, 1);
        is("13 as far as there is", y.owes(0, 1, 39, 0), 0);
        LearnLoans z = new LearnLoans();
        z.person(0);
        z.loan(0, 0, 0, 10000000, true);
        is("13 of the most", z.leave(0, 0), 7500000);
    }

    // ---- 14, 15
    private static void move() {
        LearnLoans x = house(0);
        x.loan(0, 0, 0, 100000, false);
        x.loan(0, 2, 0, 100000, false);
        is("14 no such loan", x.move(2, 0, 0), BAD);
        is("14 loan -1", x.move(-1, 0, 0), BAD);
        is("14 plan 5", x.move(0, 5, 0), BAD);
        is("14 plan -1", x.move(0, -1, 0), BAD);
        is("14 year 40", x.move(0, 0, 40), BAD);
        is("14 year -1", x.move(0, 0, -1), BAD);
        is("14 move", x.move(0, 1, 10), 1);
        x.act(1, 5, 777, 0, 0, 39);
        x.land(0, 1, 9, 10);
        is("14 ahead", x.owes(0, 9, 39, 1), 10000);
        is("14 from then on", x.owes(0, 10, 39, 1), 777);
        for (int i = 1; i < 60; i++) {
            is("14 again", x.move(1, 3, 39), 1);
        }
        is("14 the 61st", x.move(1, 3, 39), FULL);
        is("14 bad ahead of full", x.move(1, 5, 39), BAD);
        is("14 how many", x.count(3), 60);
    }

    private static void planOf() {
        LearnLoans x = house(0);
        x.loan(0, 4, 20, 100000, false);
        is("15 as drawn", x.planOf(0, 0), 4);
        x.move(0, 1, 10);
        x.move(0, 2, 30);
        x.move(0, 3, 25);
        is("15 ahead", x.planOf(0, 9), 4);
        is("15 from its year on", x.planOf(0, 10), 1);
        is("15 till the next", x.planOf(0, 24), 1);
        is("15 moved later", x.planOf(0, 25), 3);
        is("15 the latest told counts", x.planOf(0, 39), 3);
        x.loan(0, 0, 0, 1, false);
        is("15 other loan", x.planOf(1, 39), 0);
        is("15 no such loan", x.planOf(2, 0), BAD);
        is("15 loan -1", x.planOf(-1, 0), BAD);
        is("15 year 40", x.planOf(0, 40), BAD);
        is("15 year -1", x.planOf(0, -1), BAD);
    }

    // ---- 16
    private static void owes() {
        LearnLoans x = house(100);
        x.loan(0, 0, 0, 100000, false);
        x.earn(0, 1, 30000, 1);
        x.earn(0, 2, 9999, 2);
        is("16 owed", x.owes(0, 0, 39, 0), 100000);
        is("16 not grown in its year", x.owes(0, 0, 39, 4), 0);
        is("16 grown", x.owes(0, 1, 39, 4), 10000);
        is("16 taken", x.owes(0, 1, 39, 1), 10000);
        is("16 owed behind", x.owes(0, 1, 39, 0), 100000);
        is("16 below the line", x.owes(0, 2, 39, 1), 0);
        is("16 taken till then", x.owes(0, 2, 39, 3), 10000);
        is("16 not known", x.owes(0, 1, 0, 1), 0);
        is("16 struck in 30", x.owes(0, 30, 39, 0), 0);
        is("16 owed in 29", x.owes(0, 29, 39, 0), x.owes(0, 30, 39, 2));
        is("16 not struck in 29", x.owes(0, 29, 39, 2), 0);
        is("16 no such loan", x.owes(1, 0, 0, 0), BAD);
        is("16 loan -1", x.owes(-1, 0, 0, 0), BAD);
        is("16 year 40", x.owes(0, 40, 0, 0), BAD);
        is("16 year -1", x.owes(0, -1, 0, 0), BAD);
        is("16 k 40", x.owes(0, 0, 40, 0), BAD);
        is("16 k -1", x.owes(0, 0, -1, 0), BAD);
        is("16 what 5", x.owes(0, 0, 0, 5), BAD);
        is("16 what -1", x.owes(0, 0, 0, -1), BAD);
        owesByOrder();
        owesMuch();
        owesTillStruck();
    }

    private static void owesByOrder() {
        LearnLoans x = house(0);
        x.loan(0, 0, 0, 6000, false);
        x.loan(0, 1, 0, 3000, false);
        x.loan(0, 0, 0, 50000, false);
        x.act(1, 0, 20000, 0, 0, 39);
        x.act(1, 1, 500, 0, 0, 39);
        x.earn(0, 0, 30000, 0);
        is("16 first of like order", x.owes(0, 0, 0, 1), 6000);
        is("16 what is ahead goes off", x.owes(1, 0, 0, 1), 0);
        is("16 the rest", x.owes(2, 0, 0, 1), 4000);
        x.act(0, 4, 9, 0, 0, 39);
        is("16 order 0 is first", x.owes(1, 0, 0, 1), 3000);
        is("16 then by number", x.owes(0, 0, 0, 1), 6000);
        is("16 the rest of it", x.owes(2, 0, 0, 1), 1000);
        LearnLoans y = house(0);
        y.land(0, 2, 0, 0);
        y.loan(0, 0, 0, 6000, false);
        y.loan(0, 0, 0, 6000, false);
        y.loan(0, 0, 0, 6000, false);
        is("16 fixed", y.owes(0, 0, 0, 1), 6000);
        is("16 of fixed what is ahead goes off", y.owes(1, 0, 0, 1), 4000);
        is("16 of fixed all is gone", y.owes(2, 0, 0, 1), 0);
        y.earn(0, 0, 10001, 0);
        is("16 the part is cut", y.owes(0, 0, 0, 1), 0);
    }

    private static void owesMuch() {
        LearnLoans x = house(500);
        x.act(0, 3, 60, 0, 0, 39);
        x.loan(0, 0, 0, 10000000, false);
        is("16 no more than a million million", x.owes(0, 39, 39, 0), 1000000000000L);
        is("16 grows no more", x.owes(0, 39, 39, 4), 0);
        long owed = 10000000;
        int year = 0;
        while (owed + owed / 2 < 1000000000000L) {
            owed += owed * 500 / 1000;
            year++;
        }
        is("16 owed ahead of it", x.owes(0, year, 39, 0), owed);
        is("16 grown up to it", x.owes(0, year + 1, 39, 4), 1000000000000L - owed);
        LearnLoans y = house(30);
        y.loan(0, 0, 0, 99, false);
        is("16 growing is cut", y.owes(0, 1, 39, 4), 2);
    }

    private static void owesTillStruck() {
        LearnLoans x = house(0);
        x.act(0, 3, 3, 0, 0, 39);
        x.loan(0, 0, 2, 500, false);
        is("16 owed two years on", x.owes(0, 4, 39, 0), 500);
        is("16 struck three years on", x.owes(0, 5, 39, 2), 500);
        is("16 struck once", x.owes(0, 6, 39, 2), 0);
        x.act(0, 3, 60, 6, 0, 39);
        is("16 what is gone is gone", x.owes(0, 6, 39, 0), 0);
        x.move(0, 1, 5);
        is("16 moved to a longer plan that grows", x.owes(0, 5, 39, 0), 515);
    }

    // ---- 17
    private static void all() {
        LearnLoans x = house(100);
        x.person(0);
        x.loan(0, 0, 0, 100000, false);
        x.loan(1, 0, 0, 7, false);
        x.loan(0, 0, 1, 50000, false);
        x.earn(0, 1, 30000, 1);
        is("17 owed", x.all(0, 1, 39, 0), 150000);
        is("17 taken", x.all(0, 1, 39, 1), 10000);
        is("17 grown", x.all(0, 2, 39, 4), 15000);
        is("17 taken till then", x.all(0, 5, 39, 3), 10000);
        is("17 struck", x.all(0, 30, 39, 2), x.owes(0, 29, 39, 0));
        is("17 the other person's", x.all(1, 0, 39, 0), 7);
        x.person(0);
        is("17 no loans", x.all(2, 0, 39, 0), 0);
        is("17 no such person", x.all(3, 0, 0, 0), BAD);
        is("17 person -1", x.all(-1, 0, 0, 0), BAD);
        is("17 year 40", x.all(0, 40, 0, 0), BAD);
        is("17 k 40", x.all(0, 0, 40, 0), BAD);
        is("17 what 5", x.all(0, 0, 0, 5), BAD);
        is("17 what -1", x.all(0, 0, 0, -1), BAD);
    }

    // ---- 18
    private static void rate() {
        LearnLoans x = house(70);
        x.loan(0, 0, 2, 100000, false);
        x.earn(0, 4, 30000, 6);
        is("18 number", x.rate(0, 3, 39), 70);
        x.act(0, 2, 80, 4, 0, 39);
        is("18 number in force", x.rate(0, 4, 39), 80);
        write(x, 0, "o/1000");
        is("18 owed ahead of the year", x.rate(0, 3, 39), 100);
        is("18 not drawn yet", x.rate(0, 2, 39), 0);
        is("18 year 0", x.rate(0, 0, 39), 0);
        write(x, 0, "e+100");
        is("18 no earnings known", x.rate(0, 4, 5), 99);
        is("18 earnings", x.rate(0, 4, 6), 500);
        write(x, 0, "l/100");
        is("18 line", x.rate(0, 3, 39), 100);
        x.land(0, 3, 3, 3);
        x.scale(3, 2000);
        is("18 line without scale", x.rate(0, 3, 39), 100);
        write(x, 0, "a*7");
        is("18 land", x.rate(0, 3, 39), 21);
        write(x, 0, "y*11");
        is("18 years since", x.rate(0, 5, 39), 33);
        write(x, 0, "y+10");
        is("18 years ahead", x.rate(0, 0, 39), 8);
        write(x, 0, "r*2");
        is("18 the number in it", x.rate(0, 3, 39), 140);
        write(x, 0, "r*2+");
        is("18 a fault: the number", x.rate(0, 3, 39), 70);
        write(x, 0, "0-1");
        is("18 0 at least", x.rate(0, 3, 39), 0);
        write(x, 0, "501");
        is("18 500 at most", x.rate(0, 3, 39), 500);
        write(x, 1, "33");
        x.move(0, 1, 3);
        is("18 moved", x.rate(0, 3, 39), 33);
        is("18 grows by it", x.owes(0, 3, 39, 4), 3300);
        is("18 no such loan", x.rate(1, 0, 0), BAD);
        is("18 loan -1", x.rate(-1, 0, 0), BAD);
        is("18 year 40", x.rate(0, 40, 0), BAD);
        is("18 k -1", x.rate(0, 0, -1), BAD);
    }

    // ---- 19
    private static void over() {
        LearnLoans x = house(0);
        x.loan(0, 0, 0, 8000, false);
        x.loan(0, 0, 0, 100000, false);
        x.earn(0, 0, 30000, 0);
        x.right(0, 0, 20000, 3);
        x.earn(0, 1, 40000, 4);
        is("19 taken too much", x.over(0, 0, 3), 5000);
        is("19 as known then", x.over(0, 0, 2), 0);
        is("19 too little", x.over(0, 1, 4), -15000);
        is("19 not known yet", x.over(0, 1, 3), 0);
        is("19 no such person", x.over(1, 0, 0), -1000000000000000L);
        is("19 person -1", x.over(-1, 0, 0), -1000000000000000L);
        is("19 year 40", x.over(0, 40, 0), -1000000000000000L);
        is("19 k 40", x.over(0, 0, 40), -1000000000000000L);
        LearnLoans y = house(0);
        y.loan(0, 0, 0, 15000, false);
        y.earn(0, 0, 30000, 0);
        y.right(0, 0, 40000, 5);
        y.earn(0, 1, 30000, 1);
        is("19 whole runs", y.over(0, 1, 5), 5000);
    }

    // ---- 20
    private static void write() {
        LearnLoans x = new LearnLoans();
        is("20 sign -1", x.write(0, -1), BAD);
        is("20 sign 128", x.write(0, 128), BAD);
        is("20 plan 5", x.write(5, 'r'), BAD);
        is("20 plan -1", x.write(-1, 'r'), BAD);
        is("20 sign 0", x.write(1, 0), 1);
        is("20 sign 127", x.write(1, 127), 2);
        for (int i = 1; i <= 50; i++) {
            is("20 write", x.write(0, i % 2 == 1 ? 'r' : '+'), i);
        }
        is("20 the 51st", x.write(0, 'r'), FULL);
        is("20 bad ahead of full", x.write(0, 128), BAD);
        is("20 each plan its own", x.write(2, 'p'), 1);
        is("20 fifty", x.erase(0), 50);
    }

    // ---- 21
    private static void erase() {
        LearnLoans x = new LearnLoans();
        is("21 of none", x.erase(0), 0);
        write(x, 0, "r+1");
        write(x, 4, "r");
        is("21 how many", x.erase(0), 3);
        is("21 gone", x.erase(0), 0);
        is("21 empty", x.fault(0), 1);
        is("21 the other stays", x.fault(4), NONE);
        is("21 begins anew", x.write(0, 'r'), 1);
        is("21 no fault", x.fault(0), NONE);
        is("21 plan 5", x.erase(5), BAD);
        is("21 plan -1", x.erase(-1), BAD);
    }

    // ---- 22
    private static void fault() {
        LearnLoans x = new LearnLoans();
        is("22 plan 5", x.fault(5), BAD);
        is("22 plan -1", x.fault(-1), BAD);
        String[] fine = {"r", " r ", "123456", "(r)", "!r", "-r", "! - ! r", "r+p*e/l-y", "o<a", "r=1|p>2&e<3",
            "r?p:e", "r?p?1:2:3", "r?1:p?2:3", "(1<2)<3", "1<2&2<3", "((((((((1))))))))", "(1)+(2)", "1 2".replace(" ", "+"),
            "((((((((1))))))))+((((((((1))))))))", "r?(p?1:2):(3)", "1---2", "1-!-2"};
        for (String text : fine) {
            faultAt(text, NONE);
        }
        faultAt("", 1);
        faultAt("  ", 21);
        faultAt("x", 1);
        faultAt("r x", 21);
        faultAt("r r", 21);
        faultAt("1 2", 21);
        faultAt("1+", 21);
        faultAt("1+ ", 31);
        faultAt("+1", 1);
        faultAt("1<2<3", 31);
        faultAt("1=2>3", 31);
        faultAt("r?p", 31);
        faultAt("r?p:", 41);
        faultAt("r:p", 11);
        faultAt("r?p:e:l", 51);
        faultAt("(r", 21);
        faultAt("(r?1)", 41);
        faultAt("()", 11);
        faultAt("r)", 11);
        faultAt("1234567", 2);
        faultAt("r+12345678", 22);
        faultAt("1234567x", 2);
        faultAt("x1234567", 1);
        faultAt("123456 7", 71);
        faultAt("(((((((((1", 83);
        faultAt("((((((((1(", 91);
        faultAt(" ( ( ( ( ( ( ( ( ( 1", 173);
        faultAt("!", 11);
        faultAt("R", 1);
        faultAt("~r", 1);
        faultAt("\tr", 1);
        texts();
    }

    private static void faultAt(String text, int fault) {
        LearnLoans x = new LearnLoans();
        write(x, 0, text);
        is("22 " + text, x.fault(0), fault);
    }

    private static void texts() {
        tells("1+2*3", 7);
        tells("(1+2)*3", 9);
        tells("20-5-4", 11);
        tells("100/7/2", 7);
        tells("9/2*4", 16);
        tells("(0-7)/2+10", 7);
        tells("5/0+3", 3);
        tells("-2*-3", 6);
        tells("10--5", 15);
        tells("!0+!7*5", 1);
        tells("-!0+5", 4);
        tells("!-1+5", 5);
        tells("(2<3)*10+(3<2)", 10);
        tells("(2>3)*10+(3>2)", 1);
        tells("(2=2)*10+(3=2)", 10);
        tells("(2<2)+(2>2)*10", 0);
        tells("2<3+1", 1);
        tells("(1&1)+(1&2)*10+(2&1)*100", 111);
        tells("(5|0)+(0|0)*10", 1);
        tells("(5&7)+(5&0)*10", 1);
        tells("1|0&0", 1);
        tells("0&0|1", 1);
        tells("2&3<4", 1);
        tells("7?20:30", 20);
        tells("0?20:30", 30);
        tells("0-1?20:30", 20);
        tells("0?1:0?2:3", 3);
        tells("1?0?11:12:13", 12);
        tells("(999999*999999*999999*999999>0)*9+1",
            999999L * 999999 * 999999 * 999999 > 0 ? 10 : 1);
        tells(" 4 * ( 5 + 1 ) ", 24);
        tells("r", 30);
        tells("((((((((7))))))))+((((((((8))))))))", 15);
    }

    private static void tells(String text, int rate) {
        LearnLoans x = new LearnLoans();
        x.person(0);
        x.loan(0, 0, 0, 1000, false);
        write(x, 0, text);
        is("22 " + text, x.rate(0, 1, 39), rate);
    }

    // ---- 23
    private static void sell() {
        LearnLoans x = house(0);
        x.loan(0, 0, 0, 100000, false);
        is("23 no such loan", x.sell(1, 0, 0), BAD);
        is("23 loan -1", x.sell(-1, 0, 0), BAD);
        is("23 book 4", x.sell(0, 4, 0), BAD);
        is("23 book -1", x.sell(0, -1, 0), BAD);
        is("23 year 40", x.sell(0, 0, 40), BAD);
        is("23 year -1", x.sell(0, 0, -1), BAD);
        is("23 sell", x.sell(0, 3, 39), 1);
        is("23 once", x.sell(0, 3, 39), NO);
        is("23 into no other", x.sell(0, 0, 0), NO);
        is("23 bad ahead of no", x.sell(0, 4, 0), BAD);
    }

    // ---- 24
    private static void promise() {
        LearnLoans x = new LearnLoans();
        is("24 nothing", x.promise(0, 0, 0), BAD);
        is("24 too much", x.promise(0, 0, 1000000001), BAD);
        is("24 book 4", x.promise(4, 0, 1), BAD);
        is("24 book -1", x.promise(-1, 0, 1), BAD);
        is("24 year 40", x.promise(0, 40, 1), BAD);
        is("24 year -1", x.promise(0, -1, 1), BAD);
        for (int i = 1; i <= 20; i++) {
            is("24 promise", x.promise(i % 4, 39, i == 1 ? 1 : 1000000000), i);
        }
        is("24 the 21st", x.promise(0, 0, 1), FULL);
        is("24 bad ahead of full", x.promise(0, 0, 0), BAD);
        is("24 how many", x.count(4), 20);
        is("24 together", x.book(2, 39, 39, 1), 5000000000L);
        is("24 the least", x.book(1, 39, 39, 1), 4000000001L);
    }

    // ---- 25
    private static void book() {
        LearnLoans x = house(0);
        x.person(0);
        x.loan(0, 0, 0, 100000, false);
        x.loan(0, 0, 0, 100000, false);
        x.loan(1, 0, 0, 100000, false);
        for (int year = 0; year < 4; year++) {
            x.earn(0, year, 20000, year);
            x.earn(1, year, 12000, year + 2);
        }
        x.sell(0, 1, 1);
        x.sell(2, 1, 0);
        is("25 not sold yet, not known", x.book(1, 0, 0, 0), 0);
        is("25 what is taken from then on", x.book(1, 2, 39, 0), 13000);
        is("25 as known", x.book(1, 2, 2, 0), 11000);
        is("25 all years", x.book(1, 39, 39, 0), 19000);
        is("25 other book", x.book(0, 39, 39, 0), 0);
        x.promise(1, 2, 10000);
        x.promise(1, 3, 10000);
        x.promise(0, 0, 555);
        is("25 nothing promised yet", x.book(1, 1, 39, 1), 0);
        is("25 more than promised", x.book(1, 2, 39, 1), 0);
        is("25 short", x.book(1, 3, 39, 1), 1000);
        is("25 short as known", x.book(1, 3, 3, 1), 3000);
        is("25 the other's promise", x.book(0, 39, 39, 1), 555);
        is("25 book 4", x.book(4, 0, 0, 0), BAD);
        is("25 book -1", x.book(-1, 0, 0, 0), BAD);
        is("25 year 40", x.book(0, 40, 0, 0), BAD);
        is("25 k 40", x.book(0, 0, 40, 0), BAD);
        is("25 what 2", x.book(0, 0, 0, 2), BAD);
        is("25 what -1", x.book(0, 0, 0, -1), BAD);
    }

    // ---- 26
    private static void live() {
        LearnLoans x = house(0);
        x.loan(0, 0, 0, 100000, false);
        is("26 live", x.live(2, 3, 5, 20000), 1);
        is("26 three years", x.choice(0, NONE, 2, 0, 0), 15000);
        is("26 with the first", x.choice(0, NONE, 2, 3, 0), 15000);
        is("26 behind the first", x.choice(0, NONE, 2, 4, 0), 10000);
        is("26 the last", x.choice(0, NONE, 2, 5, 0), 5000);
        is("26 none behind", x.choice(0, NONE, 2, 6, 0), 0);
        is("26 told anew", x.live(2, 4, 4, 0), 1);
        is("26 two years", x.choice(0, NONE, 2, 0, 0), 10000);
        is("26 other lives", x.choice(0, NONE, 1, 0, 0), 0);
        is("26 the most", x.live(3, 0, 39, 10000000), 1);
        is("26 too much", x.live(3, 0, 39, 10000001), BAD);
        is("26 below 0", x.live(3, 0, 39, -1), BAD);
        is("26 life 4", x.live(4, 0, 0, 0), BAD);
        is("26 life -1", x.live(-1, 0, 0, 0), BAD);
        is("26 to ahead of from", x.live(0, 1, 0, 0), BAD);
        is("26 from -1", x.live(0, -1, 0, 0), BAD);
        is("26 to 40", x.live(0, 0, 40, 0), BAD);
    }

    // ---- 27
    private static void early() {
        LearnLoans x = house(100);
        x.loan(0, 0, 0, 100000, false);
        x.live(1, 2, 39, 40000);
        x.live(3, 2, 39, 30000);
        // Life 1 takes 15000 a year from 121000 on, life 3 10000 a year, which is never enough.
        long without = takenByYears(121000, 15000);
        due.holds("27 worth it", 50000 + takenByYears(71000, 15000) < without);
        is("27 early", x.early(0, 50000, 2, 39), 2 + 8);
        is("27 all that is owed", x.early(0, 1000000000, 2, 39), 2 + 8);
        is("27 what is paid counts, not the sum", x.early(0, 121001, 2, 39), 2 + 8);
        LearnLoans free = house(0);
        free.loan(0, 0, 0, 100000, false);
        free.live(0, 0, 39, 40000);
        is("27 as much", free.early(0, 50000, 2, 39), 0);
        is("27 nothing owed", free.early(0, 50000, 39, 39), 0);
        LearnLoans penny = house(500);
        penny.loan(0, 0, 0, 1000, false);
        penny.live(0, 2, 2, 90000);
        // 2250 are taken without; with a penny paid 999, 1498 and 2247.
        is("27 a penny", penny.early(0, 1, 0, 39), 1);
        is("27 sum 0", x.early(0, 0, 2, 39), BAD);
        is("27 sum too great", x.early(0, 1000000001, 2, 39), BAD);
        is("27 no such person", x.early(1, 1, 2, 39), BAD);
        is("27 person -1", x.early(-1, 1, 2, 39), BAD);
        is("27 y 40", x.early(0, 1, 40, 39), BAD);
        is("27 k -1", x.early(0, 1, 2, -1), BAD);
        earlyByOrder();
    }

    private static long takenByYears(long owed, long most) {
        long taken = 0;
        for (int year = 2; year < 30; year++) {
            owed += year == 2 ? 0 : owed * 100 / 1000;
            long now = Math.min(owed, most);
            owed -= now;
            taken += now;
        }
        return taken;
    }

    /** What is paid goes to the loan of the lowest order, even if nothing would be taken of it. */
    private static void earlyByOrder() {
        LearnLoans x = house(200);
        x.act(1, 1, 0, 0, 0, 39);
        x.loan(0, 1, 0, 30000, false);
        x.loan(0, 0, 0, 30000, false);
        x.live(0, 0, 39, 40000);
        // Of loan 1 15000, 15000 of 18000, 3600; with 10000 paid ahead of it 15000, 6000.
        is("27 taken without", x.choice(0, NONE, 0, 0, 39), 33600);
        is("27 of like order the first", x.early(0, 30000, 0, 39), 0);
        is("27 then the second", x.early(0, 60000, 0, 39), 0);
        x.act(1, 4, 5, 0, 0, 39);
        is("27 the lower order", x.early(0, 10000, 0, 39), 1);
        is("27 what is left goes to the other", x.early(0, 34000, 0, 39), 0);
        is("27 up to then", x.early(0, 33599, 0, 39), 1);
        LearnLoans y = house(200);
        y.loan(0, 0, 0, 30000, false);
        y.live(2, 0, 39, 100000);
        is("27 behind growing", y.early(0, 1000000000, 1, 39), 0);
        is("27 behind drawing", y.early(0, 1000000000, 0, 39), 0);
        y.loan(0, 0, 10, 90000, false);
        is("27 one year's growing less", y.early(0, 50000, 10, 39), 4);
        y.dies(0, 9);
        is("27 nothing is owed by who died", y.early(0, 50000, 10, 39), 0);
    }

    // ---- 28
    private static void choice() {
        LearnLoans x = house(0);
        x.loan(0, 0, 0, 100000, false);
        x.live(1, 0, 39, 20000);
        x.earn(0, 0, 30000, 0);
        x.earn(0, 1, 110000, 3);
        x.land(0, 2, 0, 39);
        is("28 as known up to y", x.choice(0, NONE, 1, 2, 3), 40000);
        is("28 not known yet, abroad", x.choice(0, NONE, 1, 2, 2), 80000);
        is("28 not with y", x.choice(0, NONE, 1, 1, 39), 90000);
        x.scale(2, 1);
        is("28 always at home", x.choice(0, NONE, 1, 0, 39), 100000);
        x.act(3, 1, 0, 0, 0, 39);
        is("28 moved", x.choice(0, 3, 1, 0, 39), 0);
        is("28 nothing is moved", x.planOf(0, 39), 0);
        x.move(0, 3, 10);
        is("28 as they are", x.choice(0, NONE, 1, 5, 0), 25000);
        // TAKEN ahead of 5 as known at 0: 14995 above a line of 10, and four times 10000.
        is("28 over moves told for later", x.choice(0, 0, 1, 5, 0), 100000 - 54995);
        x.dies(0, 8);
        is("28 nobody dies", x.choice(0, 0, 1, 5, 0), 100000 - 54995);
        is("28 but who died ahead of y did", x.choice(0, 0, 1, 9, 0), 0);
        is("28 plan 5", x.choice(0, 5, 1, 0, 0), BAD);
        is("28 plan -2", x.choice(0, -2, 1, 0, 0), BAD);
        is("28 life 4", x.choice(0, 0, 4, 0, 0), BAD);
        is("28 life -1", x.choice(0, 0, -1, 0, 0), BAD);
        is("28 no such person", x.choice(1, 0, 0, 0, 0), BAD);
        is("28 y 40", x.choice(0, 0, 0, 40, 0), BAD);
        is("28 k 40", x.choice(0, 0, 0, 0, 40), BAD);
    }

    // ---- 29
    private static void chances() {
        LearnLoans x = new LearnLoans();
        is("29 chances", x.chances(0, 4, 3, 2, 1), 1);
        is("29 all of it", x.chances(2, 0, 0, 0, 10), 1);
        is("29 nine", x.chances(0, 4, 3, 2, 0), BAD);
        is("29 eleven", x.chances(0, 4, 3, 2, 2), BAD);
        is("29 below 0", x.chances(0, 11, -1, 0, 0), BAD);
        is("29 gap below 0", x.chances(0, -1, 11, 0, 0), BAD);
        is("29 abroad below 0", x.chances(0, 0, 11, -1, 0), BAD);
        is("29 dead below 0", x.chances(0, 0, 0, 11, -1), BAD);
        is("29 all of it dead", x.chances(1, 0, 0, 0, 10), 1);
        is("29 state 3", x.chances(3, 0, 0, 0, 10), BAD);
        is("29 state -1", x.chances(-1, 10, 0, 0, 0), BAD);
        is("29 so great that they come round", x.chances(0, BIG, BIG, 10, 2), BAD);
    }

    // ---- 30
    private static void foretold() {
        LearnLoans x = house(0);
        x.loan(0, 0, 1, 50000, false);
        is("30 stays as it is", x.foretold(0, 0, 30000, 1, 3, 0), 30000 * 100);
        is("30 gap", x.foretold(0, 1, 30000, 1, 3, 0), 0);
        is("30 abroad", x.foretold(0, 2, 30000, 1, 2, 2), 20000);
        is("30 dead", x.foretold(0, 3, 30000, 2, 2, 3), 50000 * 10);
        is("30 never: what is owed", x.foretold(0, 0, 30000, 1, 3, 3), 20000 * 100);
        x.chances(0, 5, 0, 4, 1);
        x.chances(2, 0, 0, 0, 10);
        x.act(0, 5, 700, 0, 0, 39);
        // WORK in 1, then WORK WORK 25, WORK ABROAD 20, WORK DEAD 5, ABROAD DEAD 40, DEAD DEAD 10.
        is("30 mean", x.foretold(0, 0, 30000, 1, 3, 0),
            25 * 30000 + 20 * 20700 + 5 * 20000 + 40 * 10700 + 10 * 10000);
        is("30 least", x.foretold(0, 0, 30000, 1, 3, 1), 10000);
        is("30 greatest", x.foretold(0, 0, 30000, 1, 3, 2), 30000);
        is("30 never", x.foretold(0, 0, 30000, 1, 3, 3),
            25 * 20000 + 20 * 29300 + 5 * 30000 + 40 * 39300 + 10 * 40000);
        foretoldWithTheRunAhead();
        is("30 no such person", x.foretold(1, 0, 0, 0, 1, 0), BAD);
        is("30 person -1", x.foretold(-1, 0, 0, 0, 1, 0), BAD);
        is("30 state 4", x.foretold(0, 4, 0, 0, 1, 0), BAD);
        is("30 state -1", x.foretold(0, -1, 0, 0, 1, 0), BAD);
        is("30 pence below 0", x.foretold(0, 0, -1, 0, 1, 0), BAD);
        is("30 too much pence", x.foretold(0, 0, 10000001, 0, 1, 0), BAD);
        is("30 n 0", x.foretold(0, 0, 0, 0, 0, 0), BAD);
        is("30 n 6", x.foretold(0, 0, 0, 0, 6, 0), BAD);
        is("30 up to 40", x.foretold(0, 0, 0, 35, 5, 0), 0);
        is("30 above 40", x.foretold(0, 0, 0, 36, 5, 0), BAD);
        is("30 y 40", x.foretold(0, 0, 0, 40, 1, 0), BAD);
        is("30 y -1", x.foretold(0, 0, 0, -1, 2, 0), BAD);
        is("30 y greatest", x.foretold(0, 0, 0, BIG, 5, 0), BAD);
        is("30 what 4", x.foretold(0, 0, 0, 0, 1, 4), BAD);
        is("30 what -1", x.foretold(0, 0, 0, 0, 1, -1), BAD);
    }

    private static void foretoldWithTheRunAhead() {
        LearnLoans x = house(100);
        x.loan(0, 0, 0, 50000, false);
        x.earn(0, 0, 30000, 30);
        x.earn(0, 1, 500000, 1);
        x.dies(0, 1);
        is("30 as known at 39, nobody told is dead", x.foretold(0, 0, 20000, 1, 1, 0), 5000);
        is("30 grown", x.foretold(0, 0, 20000, 1, 1, 3), 39000);
        is("30 dead in it: ahead of growing", x.foretold(0, 3, 20000, 1, 1, 3), 40000);
        is("30 dead ahead of it", x.foretold(0, 0, 20000, 2, 1, 0), 0);
        x.act(0, 3, 2, 0, 0, 39);
        is("30 struck by its years", x.foretold(0, 0, 20000, 1, 3, 3), 3900000);
        LearnLoans y = house(0);
        y.loan(0, 0, 0, 10000, false);
        y.land(0, 3, 0, 39);
        y.act(0, 5, 0, 0, 0, 39);
        write(y, 0, "(a+1)*10+e+2");
        is("30 abroad: land 1, no earnings", y.foretold(0, 2, 0, 1, 1, 3), 10000 + 210);
        is("30 gap: earnings 0, at home", y.foretold(0, 1, 7, 1, 1, 3), 10000 + 120);
        is("30 work: earnings as told, at home", y.foretold(0, 0, 7, 1, 1, 3), 10000 + 190);
    }

    // ---- 31
    private static void tried() {
        LearnLoans x = house(0);
        x.person(9);
        x.loan(0, 0, 0, 100000, false);
        x.loan(1, 0, 0, 100000, false);
        x.earn(0, 5, 30000, 39);
        x.earn(1, 5, 20000, 39);
        x.earn(1, 4, 20000, 39);
        is("31 as it is", x.tried(0, 0, 10000, 0, 5), 15000);
        is("31 line 0", x.tried(0, 0, 0, 0, 5), 25000);
        is("31 from that year", x.tried(0, 0, 0, 5, 5), 25000);
        is("31 from the next", x.tried(0, 0, 0, 6, 5), 15000);
        is("31 one earns", x.tried(0, 0, 0, 0, 4), 10000);
        x.act(0, 0, 15000, 3, 9, 9);
        is("31 acts of later years come into force", x.tried(0, 0, 0, 0, 5), 17500);
        is("31 last of all", x.tried(0, 0, 0, 3, 5), 25000);
        is("31 nothing changes", x.count(2), 4);
        is("31 nothing changes in force", x.force(0, 0, 1, 5), 15000);
        for (int i = 4; i < 60; i++) {
            x.act(0, 0, 20000, 3, 0, 39);
        }
        is("31 with sixty acts", x.tried(0, 0, 0, 3, 5), 25000);
        is("31 still full", x.act(0, 0, 0, 0, 0, 39), FULL);
        is("31 and as before", x.force(0, 0, 0, 5), 20000);
        is("31 plan 5", x.tried(5, 0, 0, 0, 0), BAD);
        is("31 plan -1", x.tried(-1, 0, 0, 0, 0), BAD);
        is("31 what 6", x.tried(0, 6, 0, 0, 0), BAD);
        is("31 what -1", x.tried(0, -1, 0, 0, 0), BAD);
        is("31 not as that one must be", x.tried(0, 3, 0, 0, 0), BAD);
        is("31 part 1001", x.tried(0, 1, 1001, 0, 0), BAD);
        is("31 from 40", x.tried(0, 0, 0, 40, 0), BAD);
        is("31 year 40", x.tried(0, 0, 0, 0, 40), BAD);
    }

    // ---- 32, 33
    private static void tell() {
        LearnLoans x = new LearnLoans();
        is("32 below 0", x.tell(-1), BAD);
        is("32 too great", x.tell(10000001), BAD);
        for (int i = 1; i <= 9; i++) {
            is("32 tell", x.tell(i == 1 ? 10000000 : 0), i);
        }
        is("32 the tenth", x.tell(1), FULL);
        is("32 bad ahead of full", x.tell(-1), BAD);
        is("32 how many", x.count(5), 9);
    }

    private static void untell() {
        LearnLoans x = new LearnLoans();
        is("33 none", x.untell(), 0);
        x.tell(5);
        x.tell(5);
        is("33 two", x.untell(), 2);
        is("33 gone", x.untell(), 0);
        is("33 how many", x.count(5), 0);
        is("33 anew", x.tell(7), 1);
    }

    // ---- 34
    private static void best() {
        LearnLoans x = house(0);
        x.loan(0, 0, 0, 100000, false);
        x.earn(0, 5, 30000, 39);
        is("34 none told", x.best(0, 0, 0, 5, 0, 0), NONE);
        x.tell(20000);
        x.tell(2000);
        x.tell(12000);
        x.tell(8000);
        x.tell(8000);
        is("34 of like ones the least", x.best(0, 0, 0, 5, 0, 0), 8000);
        is("34 no less than asked", x.best(0, 0, 0, 5, 0, 11000), 8000);
        is("34 a penny more", x.best(0, 0, 0, 5, 0, 11001), 2000);
        is("34 none", x.best(0, 0, 0, 5, 0, 14001), NONE);
        is("34 below 0 asked", x.best(0, 0, 0, 5, 0, Long.MIN_VALUE), 8000);
        is("34 more than all", x.best(0, 0, 0, 5, 0, Long.MAX_VALUE), NONE);
        x.act(0, 0, 17000, 5, 0, 39);
        is("34 nearest to that year's", x.best(0, 0, 5, 5, 0, 0), 20000);
        is("34 in force in the year asked", x.best(0, 0, 5, 4, 0, 0), 8000);
        is("34 not what is tried comes into force", x.best(0, 0, 4, 5, 0, 6501), NONE);
        x.person(9);
        x.act(0, 0, 1000, 5, 9, 9);
        is("34 in force for the person", x.best(0, 0, 5, 5, 1, 0), 2000);
        x.untell();
        x.tell(1001);
        x.tell(900);
        is("34 numbers that are none", x.best(0, 1, 0, 5, 0, 0), 900);
        is("34 none of them is one", x.best(0, 2, 0, 5, 0, 0), NONE);
        is("34 plan 5", x.best(5, 0, 0, 0, 0, 0), BAD);
        is("34 what 6", x.best(0, 6, 0, 0, 0, 0), BAD);
        is("34 what -1", x.best(0, -1, 0, 0, 0, 0), BAD);
        is("34 from 40", x.best(0, 0, 40, 0, 0, 0), BAD);
        is("34 year -1", x.best(0, 0, 0, -1, 0, 0), BAD);
        is("34 no such person", x.best(0, 0, 0, 0, 2, 0), BAD);
    }

    // ---- 35, 36
    private static void image() {
        LearnLoans x = house(0);
        is("35 image 2", x.image(2), BAD);
        is("35 image -1", x.image(-1), BAD);
        is("35 image", x.image(0), 1);
        x.person(3);
        is("35 the other", x.image(1), 1);
        is("35 from the first", x.from(0), 1);
        is("35 one person", x.count(0), 1);
        is("35 from the second", x.from(1), 1);
        is("35 two persons", x.count(0), 2);
        x.person(3);
        is("35 kept anew", x.image(0), 1);
        x.from(1);
        x.from(0);
        is("35 three persons", x.count(0), 3);
    }

    private static void from() {
        LearnLoans x = house(40);
        is("36 none was kept", x.from(0), NO);
        is("36 image 2", x.from(2), BAD);
        is("36 image -1", x.from(-1), BAD);
        fill(x);
        long digest = x.digest();
        long answers = answers(x);
        x.image(0);
        is("36 the other was not kept", x.from(1), NO);
        spoil(x);
        due.holds("36 other answers", x.digest() != digest && answers(x) != answers);
        is("36 from", x.from(0), 1);
        is("36 digest", x.digest(), digest);
        is("36 all answers", answers(x), answers);
        is("36 not put right", x.right(0, 7, 1, 39), 1);
        is("36 not left", x.leave(1, 9), 0);
        is("36 not sold", x.sell(1, 0, 0), 1);
        is("36 not dead", x.dies(0, 39), 1);
        is("36 again", x.from(0), 1);
        is("36 digest again", x.digest(), digest);
        LearnLoans y = house(0);
        y.earn(0, 2, 50000, 3);
        y.image(0);
        y.right(0, 2, 60000, 3);
        y.image(1);
        y.from(0);
        y.right(0, 2, 70000, 3);
        y.from(1);
        is("36 as it was put right", y.earnings(0, 2, 3), 60000);
    }

    private static void fill(LearnLoans x) {
        x.person(4);
        x.dies(1, 9);
        x.land(0, 2, 3, 4);
        x.scale(2, 700);
        x.prices(2, 11);
        x.earn(0, 2, 50000, 3);
        x.right(0, 2, 60000, 6);
        x.earn(0, 7, 60000, 7);
        x.loan(0, 0, 0, 100000, false);
        x.loan(0, 1, 1, 50000, true);
        x.loan(1, 1, 1, 50000, true);
        x.leave(2, 2);
        x.move(0, 3, 5);
        write(x, 0, "p+r");
        x.sell(0, 2, 1);
        x.promise(2, 5, 1000000);
        x.live(1, 4, 30, 70000);
        x.chances(0, 3, 3, 3, 1);
        x.tell(7000);
    }

    private static void spoil(LearnLoans x) {
        x.person(4);
        x.dies(0, 8);
        x.land(0, 1, 0, 39);
        x.scale(2, 5000);
        x.prices(2, 99);
        x.right(0, 7, 0, 7);
        x.earn(0, 8, 500000, 8);
        x.act(0, 0, 1, 0, 0, 39);
        x.loan(0, 0, 0, 1, false);
        x.leave(1, 1);
        x.move(0, 4, 0);
        write(x, 0, "500");
        x.sell(1, 2, 0);
        x.promise(2, 5, 1);
        x.live(1, 4, 30, 1);
        x.chances(0, 0, 0, 0, 10);
        x.untell();
    }

    private static long answers(LearnLoans x) {
        long h = 1;
        for (int year = 0; year < 12; year++) {
            for (int what = 0; what < 5; what++) {
                h = 31 * h + x.all(0, year, 39, what);
                h = 31 * h + x.all(1, year, 39, what);
            }
            h = 31 * h + x.earnings(0, year, 4);
            h = 31 * h + x.planOf(0, year);
        }
        h = 31 * h + x.book(2, 9, 39, 1);
        h = 31 * h + x.choice(0, NONE, 1, 4, 39);
        h = 31 * h + x.foretold(0, 0, 40000, 2, 3, 0);
        h = 31 * h + x.best(0, 0, 0, 2, 0, 0);
        return h;
    }

    // ---- 37
    private static void count() {
        LearnLoans x = house(0);
        is("37 what 6", x.count(6), BAD);
        is("37 what -1", x.count(-1), BAD);
        x.person(0);
        x.loan(0, 0, 0, 1, false);
        x.move(0, 1, 0);
        x.move(0, 2, 0);
        for (int i = 0; i < 4; i++) {
            x.promise(i, 0, 1);
        }
        for (int i = 0; i < 5; i++) {
            x.tell(i);
        }
        int[] many = {2, 1, 3, 2, 4, 5};
        for (int what = 0; what < 6; what++) {
            is("37 count(" + what + ")", x.count(what), many[what]);
        }
    }

    // ---- 38
    private static void digest() {
        LearnLoans x = new LearnLoans();
        x.person(7);
        x.person(8);
        x.dies(0, 30);
        x.land(1, 3, 2, 2);
        x.loan(0, 2, 1, 4000, true);
        x.loan(1, 0, 0, 500, false);
        x.leave(0, 2);
        x.sell(1, 3, 6);
        x.act(4, 5, 77, 3, 1, 9);
        x.move(1, 4, 11);
        x.promise(2, 3, 4);
        x.tell(9);
        x.tell(8);
        write(x, 1, "a +");
        long h = 347;
        h = mix(h, 2, 2, 1, 1, 1, 2);
        h = mix(h, 7, 30);
        h = lands(h, NONE, 0);
        h = mix(h, 8, NONE);
        h = lands(h, 2, 3);
        h = mix(h, 0, 2, 1, 4000, 1, 2, NONE, NONE);
        h = mix(h, 1, 0, 0, 500, 0, NONE, 3, 6);
        h = mix(h, 4, 5, 77, 3, 1, 9);
        h = mix(h, 1, 4, 11);
        h = mix(h, 0, 3, 'a', ' ', '+', 0, 0, 0);
        h = mix(h, 0, 0);
        // The second is abroad in 2 without earnings: FIXED is more than 500 and what it has grown.
        h = mix(h, 0, 500 + 15 + 15);
        is("38 digest", x.digest(), h);
        is("38 the same again", x.digest(), h);
    }

    private static long mix(long h, long... numbers) {
        for (long number : numbers) {
            h = 31 * h + number;
        }
        return h;
    }

    private static long lands(long h, int year, int land) {
        for (int i = 0; i < 40; i++) {
            h = 31 * h + (i == year ? land : 0);
        }
        return h;
    }
}
