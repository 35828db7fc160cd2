/** The example of README.md, as it is written there. */
public final class Example {
    public static void main(String[] args) {
        LearnLoans land = new LearnLoans();

        // Ann began in year 0. Acts change plan 0 from year 0 on, for all who began in 0 to 39.
        int ann = land.person(0);
        land.act(0, 0, 50000, 0, 0, 39);                      // number 0, the line
        land.act(0, 1, 100, 0, 0, 39);                        // number 1, the part, in thousandths
        land.act(0, 2, 50, 0, 0, 39);                         // number 2, the rate, in thousandths
        int loan = land.loan(ann, 0, 0, 100000, false);       // in plan 0, drawn in year 0
        int fee = land.loan(ann, 0, 1, 20000, true);          // a fee, drawn in year 1

        // What was earned in year 1 is known in year 2 and put right in year 4.
        land.earn(ann, 0, 90000, 0);
        land.earn(ann, 1, 80000, 2);
        land.right(ann, 1, 100000, 4);
        show("taken in year 0", land.owes(loan, 0, 0, 1));
        show("owed behind year 0", land.owes(loan, 0, 0, 0));
        show("grown in year 1", land.owes(loan, 1, 2, 4));
        show("taken in year 1, as known at 2", land.owes(loan, 1, 2, 1));
        show("taken in year 1, as known at 4", land.owes(loan, 1, 4, 1));
        show("taken too much in year 1 (below 0: too little)", land.over(ann, 1, 4));

        // Who leaves a fee in the year behind the one in which it was drawn gets half of it back.
        show("given back", land.leave(fee, 2));
        show("owed of the fee behind year 2", land.owes(fee, 2, 4, 0));

        // The rate of plan 0 is told by a text from now on: the prices and 10, 40 at most.
        write(land, 0, "p + 10 < 40 ? p + 10 : 40");
        land.prices(2, 20);
        land.prices(3, 35);
        show("fault of the text", land.fault(0));
        show("rate in year 2", land.rate(loan, 2, 4));
        show("rate in year 3", land.rate(loan, 3, 4));

        // The loan is sold into book 0, for which 90000 pence by year 5 are promised.
        land.sell(loan, 0, 0);
        land.promise(0, 5, 90000);
        show("what the book has by year 5", land.book(0, 5, 4, 0));
        show("short of what was promised", land.book(0, 5, 4, 1));

        // Lives: whether to pay 30000 early, and what another plan would take.
        land.live(0, 0, 39, 60000);
        land.live(1, 0, 39, 250000);
        show("lives in which paying early is less", land.early(ann, 30000, 3, 4));
        show("taken by life 1 from year 3 on", land.choice(ann, LearnLoans.NONE, 1, 3, 4));
        show("the same in plan 1", land.choice(ann, 1, 1, 3, 4));

        // Chances: who works goes on with 7 tenths, has a gap with 2 and goes abroad with 1.
        land.chances(0, 7, 2, 1, 0);
        show("the mean of two years, times 10", land.foretold(ann, 0, 90000, 5, 2, 0));
        show("the least", land.foretold(ann, 0, 90000, 5, 2, 1));
        show("the greatest", land.foretold(ann, 0, 90000, 5, 2, 2));

        // Other numbers tried: the line that brings back 3500 or more in year 1.
        show("taken in year 1 with a line of 60000", land.tried(0, 0, 60000, 0, 1));
        land.tell(55000);
        land.tell(65000);
        land.tell(80000);
        show("the nearest line that brings 3500", land.best(0, 0, 0, 1, ann, 3500));

        // An image is kept, the house changes and goes on from the image.
        land.image(0);
        land.dies(ann, 3);
        show("struck in year 3", land.all(ann, 3, 4, 2));
        land.from(0);
        show("struck in year 3, from the image", land.all(ann, 3, 4, 2));

        // What is not as told is refused and changes nothing.
        show("a loan of nobody", land.loan(7, 0, 0, 100000, false));
        show("earnings told twice", land.earn(ann, 0, 1, 0));
        show("earnings that nobody knows", land.earnings(ann, 9, 39));
    }

    private static void write(LearnLoans land, int plan, String text) {
        for (int i = 0; i < text.length(); i++) {
            land.write(plan, text.charAt(i));
        }
    }

    private static void show(String what, long answer) {
        System.out.println(what + ": " + answer);
    }
}
