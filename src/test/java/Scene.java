/** Houses in which every call has something to change, and all that a house tells as one number. */
final class Scene {
    static final int NONE = -1;

    private Scene() {
    }

    /** Two PERSONS and three LOANS; one more of everything fits, and only the first IMAGE is kept. */
    static LearnLoans roomy() {
        LearnLoans x = new LearnLoans();
        x.person(3);
        x.person(8);
        x.loan(0, 0, 0, 10000000, false);
        x.loan(0, 1, 5, 50000, true);
        x.loan(1, 0, 2, 30000, true);
        plans(x);
        x.move(1, 2, 20);
        x.promise(1, 5, 300000);
        x.tell(7000);
        x.tell(12000);
        write(x, 0, "r+p");
        write(x, 1, "50");
        rest(x);
        x.image(0);
        x.prices(6, 77);
        return x;
    }

    private static void plans(LearnLoans x) {
        x.act(0, 0, 10000, 0, 0, 39);
        x.act(0, 1, 500, 0, 0, 39);
        x.act(0, 2, 10, 0, 0, 39);
        x.act(0, 3, 60, 0, 0, 39);
        x.act(0, 5, 3000, 0, 0, 39);
    }

    /** What is told neither as they come nor in a TEXT. */
    private static void rest(LearnLoans x) {
        x.land(1, 2, 3, 6);
        x.scale(2, 700);
        x.prices(5, 40);
        x.earn(0, 0, 60000, 0);
        x.earn(0, 5, 70000, 10);
        x.earn(0, 39, 80000, 39);
        for (int life = 0; life < 4; life++) {
            x.live(life, 0, 39, 20000 + 1000 * life);
        }
        x.chances(0, 4, 3, 2, 1);
        x.chances(1, 1, 5, 3, 1);
        x.chances(2, 2, 2, 6, 0);
    }

    /** Nothing more fits, and what is told of person 0 and loan 0 can not be told again. */
    static LearnLoans full() {
        LearnLoans x = new LearnLoans();
        for (int i = 0; i < 12; i++) {
            x.person(i);
        }
        for (int i = 0; i < 30; i++) {
            x.loan(i % 12, i == 0 ? 0 : i % 5, 2, i == 0 ? 10000000 : 1000 + i, i < 12);
        }
        plans(x);
        for (int i = 5; i < 60; i++) {
            x.act(4, i % 2 == 0 ? 0 : 5, i, i % 40, 0, 39);
        }
        for (int i = 0; i < 60; i++) {
            x.move(1 + i % 29, i % 4, i % 40);
        }
        for (int i = 0; i < 20; i++) {
            x.promise(i % 4, i * 2, 100000 + i);
        }
        for (int i = 0; i < 9; i++) {
            x.tell(7000 + 1000 * i);
        }
        write(x, 0, "r+p" + "+0".repeat(23) + " ");
        rest(x);
        x.dies(0, 38);
        x.right(0, 5, 75000, 12);
        x.leave(0, 4);
        x.sell(0, 1, 6);
        x.image(0);
        x.prices(6, 77);
        x.image(1);
        x.prices(6, 88);
        return x;
    }

    static void write(LearnLoans x, int plan, String text) {
        x.erase(plan);
        for (int i = 0; i < text.length(); i++) {
            x.write(plan, text.charAt(i));
        }
    }

    /** All that the house and its IMAGES tell; x is of no use behind it. */
    static long whole(LearnLoans x) {
        long h = told(x, 1);
        for (int i = 0; i < 2; i++) {
            h = 31 * h + x.from(i);
            h = told(x, h);
        }
        return h;
    }

    private static long told(LearnLoans x, long before) {
        long h = 31 * before + x.digest();
        int[] years = {0, 5, 39};
        for (int year : years) {
            for (int person = 0; person < 3; person++) {
                h = 31 * h + x.earnings(person, year, 11);
                h = 31 * h + x.earnings(person, year, 39);
            }
            for (int four = 0; four < 4; four++) {
                h = 31 * h + x.book(four, year, 39, 1);
                h = 31 * h + x.choice(0, NONE, four, year, 39);
            }
        }
        for (int state = 0; state < 3; state++) {
            h = 31 * h + x.foretold(0, state, 30000, 5, 2, 0);
            h = 31 * h + x.foretold(0, state, 30000, 5, 2, 3);
        }
        for (long asked = -1; asked < 40000; asked += 10000) {
            h = 31 * h + x.best(0, 0, 0, 5, 0, asked);
        }
        return told(x, h, new int[] {0, 4, 5, 6, 39});
    }

    /** What is only told as what it was when another is told. */
    private static long told(LearnLoans x, long before, int[] years) {
        long h = before;
        for (int year : years) {
            h = 31 * h + x.prices(year, 0);
        }
        for (int land = 0; land < 4; land++) {
            h = 31 * h + x.scale(land, 1000);
        }
        return 31 * h + x.untell();
    }
}
