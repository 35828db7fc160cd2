/** Promises 35 to 38: the edges of IMAGES, count and digest. */
public final class ImagesTest {
    private static final int NONE = -1, BAD = -2, NO = -3, FULL = -4;
    private static final Due due = new Due();

    private interface Teller {
        /** Answers all answers as one number. */
        long tell(LearnLoans x, int v);
    }

    private interface Asker {
        long ask(LearnLoans x);
    }

    public static void main(String[] args) {
        twoImages();
        imagesStay();
        goesOn("persons", ImagesTest::tellPersons, ImagesTest::askPersons);
        goesOn("loans", ImagesTest::tellLoans, ImagesTest::askLoans);
        goesOn("acts", ImagesTest::tellActs, ImagesTest::askActs);
        goesOn("texts", ImagesTest::tellTexts, LearnLoans::digest);
        goesOn("books", ImagesTest::tellBooks, ImagesTest::askBooks);
        goesOn("lives", ImagesTest::tellLives, ImagesTest::askLives);
        goesOn("numbers", ImagesTest::tellNumbers, ImagesTest::askNumbers);
        countOfEach();
        digestOfWhatIsNoPart();
        digestOfAFullHouse();
        digestOfWhatIsOwed();
        due.end("ImagesTest");
    }

    private static void is(String call, long got, long want) {
        due.is(call, got, want);
    }

    private static void twoImages() {
        LearnLoans x = new LearnLoans();
        is("35 none is kept", x.from(0), NO);
        is("35 nor the other", x.from(1), NO);
        is("35 an empty house is kept", x.image(1), 1);
        x.person(4);
        is("35 the first is not", x.from(0), NO);
        is("35 the house is as it was", x.count(0), 1);
        is("35 it goes on from the empty one", x.from(1), 1);
        is("35 nobody is there", x.count(0), 0);
        x.person(5);
        x.person(6);
        is("35 kept", x.image(0), 1);
        is("35 from the other", x.from(1), 1);
        is("35 still empty", x.count(0), 0);
        is("35 from the first", x.from(0), 1);
        is("35 two are there", x.count(0), 2);
        is("35 kept over the empty one", x.image(1), 1);
        x.person(7);
        is("35 from it", x.from(1), 1);
        is("35 two again", x.count(0), 2);
        is("35 a third image is none", x.image(2), BAD);
        is("35 nor is there one to go on from", x.from(2), BAD);
    }

    /** An IMAGE stays as it was kept, whatever the house does behind it. */
    private static void imagesStay() {
        LearnLoans x = Scene.roomy();
        long digest = x.digest();
        x.image(1);
        x.from(1);
        is("36 as it was", x.digest(), digest);
        x.person(0);
        x.loan(0, 0, 0, 1, false);
        x.erase(0);
        x.scale(2, 1);
        x.from(1);
        is("36 as it was kept", x.digest(), digest);
        is("36 its scale", x.scale(2, 2), 700);
        x.from(1);
        is("36 its scale again", x.scale(2, 2), 700);
        x.from(0);
        is("36 the other's prices", x.prices(6, 0), 0);
        x.from(1);
        is("36 its prices", x.prices(6, 0), 77);
        LearnLoans full = Scene.full();
        is("36 from a full one", full.from(0), 1);
        is("36 it is full", full.person(0), FULL);
        is("36 of all", full.tell(0), FULL);
    }

    /**
     * Keeps an empty house and one in which something is told, tells something else in the empty
     * one, and goes on from the other: all is as it was kept, to the last of each.
     */
    private static void goesOn(String what, Teller teller, Asker asker) {
        LearnLoans x = new LearnLoans();
        x.image(0);
        teller.tell(x, 1);
        x.image(1);
        long kept = asker.ask(x);
        x.from(0);
        LearnLoans y = new LearnLoans();
        is("36 " + what + " told in the empty one as in a new one", teller.tell(x, 2), teller.tell(y, 2));
        due.holds("36 " + what + ": another house", asker.ask(x) != kept);
        x.from(1);
        is("36 " + what + " as kept", asker.ask(x), kept);
        long other = asker.ask(y);
        y.image(0);
        is("36 " + what + " of the other, kept", asker.ask(y), other);
        x.from(0);
        is("36 " + what + ": empty again", x.digest(), new LearnLoans().digest());
    }

    private static long tellPersons(LearnLoans x, int v) {
        long h = 1;
        for (int i = 0; i < 12; i++) {
            h = 31 * h + x.person(v == 1 ? i : 39 - i);
            h = 31 * h + x.land(i, v, 0, 0);
            h = 31 * h + x.land(i, v, 38 + v % 2, 39);
            h = 31 * h + x.earn(i, 0, 100 * v + i, v);
            h = 31 * h + x.earn(i, 39, 200 * v + i, 39);
            h = 31 * h + x.earn(i, 20, 300 * v + i, 20 + v);
            h = 31 * h + x.right(i, 20, 400 * v + i, 25 + v);
        }
        h = 31 * h + x.dies(11, 30 + v);
        h = 31 * h + x.dies(0, 20 + v);
        return h;
    }

    private static long askPersons(LearnLoans x) {
        long h = x.digest();
        for (int i = 0; i < 12; i++) {
            for (int k = 0; k < 3; k++) {
                h = 31 * h + x.earnings(i, 0, k);
            }
            h = 31 * h + x.earnings(i, 39, 39);
            h = 31 * h + x.earnings(i, 20, 21);
            h = 31 * h + x.earnings(i, 20, 26);
            h = 31 * h + x.earnings(i, 20, 39);
        }
        return h;
    }

    private static long tellLoans(LearnLoans x, int v) {
        long h = 1;
        h = 31 * h + x.person(0);
        h = 31 * h + x.person(1);
        for (int i = 0; i < 30; i++) {
            h = 31 * h + x.loan((i + v) % 2, (i + v) % 5, 20 + v, 1000 * v + i, i > 20);
        }
        for (int i = 0; i < 60; i++) {
            h = 31 * h + x.move(29 - i % 30, (i + v) % 5, i < 30 ? 20 + v : 39);
        }
        h = 31 * h + x.leave(29, 20 + 2 * v);
        h = 31 * h + x.sell(0, v, v);
        h = 31 * h + x.sell(29, v, 38 + v % 2);
        return h;
    }

    private static long askLoans(LearnLoans x) {
        long h = x.digest();
        for (int loan = 0; loan < 30; loan++) {
            h = 31 * h + x.planOf(loan, 0);
            h = 31 * h + x.planOf(loan, 38);
            h = 31 * h + x.planOf(loan, 39);
        }
        return h;
    }

    private static long tellActs(LearnLoans x, int v) {
        long h = 1;
        h = 31 * h + x.person(v);
        for (int i = 0; i < 60; i++) {
            h = 31 * h + x.act(i % 5, (i + v) % 6, v + i % 9, i % 4, 0, 39);
        }
        return h;
    }

    private static long askActs(LearnLoans x) {
        long h = x.digest();
        for (int plan = 0; plan < 5; plan++) {
            for (int what = 0; what < 6; what++) {
                h = 31 * h + x.force(plan, what, 0, 39);
            }
        }
        return h;
    }

    private static long tellTexts(LearnLoans x, int v) {
        Scene.write(x, 0, (v == 1 ? "r+" : "p-").repeat(24) + v + v);
        Scene.write(x, 4, (v == 1 ? "l*" : "o/").repeat(24) + v + v);
        return 1000L * x.fault(0) + x.fault(4);
    }

    private static long tellBooks(LearnLoans x, int v) {
        long h = 1;
        for (int i = 0; i < 20; i++) {
            h = 31 * h + x.promise(i % 4, (i + v) % 40, 100 * v + i);
        }
        h = 31 * h + x.promise(3, 39, v);
        return h;
    }

    private static long askBooks(LearnLoans x) {
        long h = x.digest();
        for (int book = 0; book < 4; book++) {
            for (int year = 0; year < 40; year += 3) {
                h = 31 * h + x.book(book, year, 39, 1);
            }
        }
        return h;
    }

    private static long tellLives(LearnLoans x, int v) {
        long h = 1;
        h = 31 * h + x.person(0);
        h = 31 * h + x.loan(0, 0, 20, 10000000, false);
        for (int life = 0; life < 4; life++) {
            h = 31 * h + x.live(life, 0, 39, 3000000 * v + 100000 * life);
            h = 31 * h + x.live(life, 39, 39, 3500000 * v + 100000 * life);
        }
        h = 31 * h + x.chances(0, v, 2, 3, 5 - v);
        h = 31 * h + x.chances(1, 2, v, 3, 5 - v);
        h = 31 * h + x.chances(2, 2, 3, v, 5 - v);
        h = 31 * h + x.scale(0, v);
        h = 31 * h + x.scale(3, v);
        return h;
    }

    private static long askLives(LearnLoans x) {
        long h = x.digest();
        for (int life = 0; life < 4; life++) {
            for (int y = 19; y < 40; y++) {
                h = 31 * h + x.choice(0, NONE, life, y, 39);
            }
        }
        for (int state = 0; state < 3; state++) {
            h = 31 * h + x.foretold(0, state, 3000000, 20, 2, 0);
            h = 31 * h + x.foretold(0, state, 3000000, 20, 2, 3);
        }
        return h;
    }

    private static long tellNumbers(LearnLoans x, int v) {
        long h = 1;
        h = 31 * h + x.person(0);
        h = 31 * h + x.loan(0, 0, 0, 10000000, false);
        h = 31 * h + x.loan(0, 0, 0, 10000000, false);
        h = 31 * h + x.earn(0, 0, 10000000, 0);
        h = 31 * h + x.act(0, 1, 1000, 0, 0, 39);
        for (int i = 0; i < 9; i++) {
            h = 31 * h + x.tell(1000000 * i + v);
        }
        for (int year = 0; year < 40; year++) {
            h = 31 * h + x.prices(year, year + v);
        }
        Scene.write(x, 0, "p");
        return h;
    }

    private static long askNumbers(LearnLoans x) {
        long h = x.digest();
        for (int i = 0; i < 10; i++) {
            h = 31 * h + x.best(0, 0, 0, 0, 0, 1000000L * i);
        }
        for (int year = 0; year < 40; year++) {
            h = 31 * h + x.rate(0, year, 39);
        }
        return h;
    }

    private static void countOfEach() {
        int[] most = {12, 30, 60, 60, 20, 9};
        LearnLoans empty = new LearnLoans();
        LearnLoans full = Scene.full();
        for (int what = 0; what < 6; what++) {
            is("37 of none", empty.count(what), 0);
            is("37 of all", full.count(what), most[what]);
        }
        full.person(0);
        full.loan(0, 0, 0, 1, false);
        full.act(0, 0, 0, 0, 0, 39);
        full.move(0, 0, 0);
        full.promise(0, 0, 1);
        full.tell(1);
        for (int what = 0; what < 6; what++) {
            is("37 still of all", full.count(what), most[what]);
        }
        full.untell();
        is("37 no numbers told", full.count(5), 0);
        full.from(0);
        is("37 nine again", full.count(5), 9);
    }

    private static void digestOfWhatIsNoPart() {
        LearnLoans x = new LearnLoans();
        long empty = 347 * powerOf31(6 + 5);
        is("38 of an empty house", x.digest(), empty);
        x.prices(0, 500);
        x.scale(0, 5);
        x.live(0, 0, 39, 7);
        x.chances(0, 0, 0, 0, 10);
        x.image(0);
        is("38 of what is no part of it", x.digest(), empty);
        x.write(0, 0);
        is("38 character 0 is one", x.digest(), (347 * powerOf31(7) + 1) * powerOf31(5));
        x.erase(0);
        x.write(4, 127);
        is("38 character 127 in the last", x.digest(), (347 * powerOf31(11) + 1) * 31 + 127);
        x.from(0);
        is("38 from an empty house", x.digest(), empty);
    }

    private static long powerOf31(int n) {
        long p = 1;
        for (int i = 0; i < n; i++) {
            p *= 31;
        }
        return p;
    }

    private static long mix(long h, long... numbers) {
        for (long v : numbers) {
            h = 31 * h + v;
        }
        return h;
    }

    /** All that fits is part of it, each with other numbers; nothing is owed any more in 39. */
    private static void digestOfAFullHouse() {
        LearnLoans x = new LearnLoans();
        long h = mix(347, 12, 30, 60, 60, 20, 9);
        for (int i = 0; i < 12; i++) {
            x.person(39 - i);
            x.land(i, i % 4, 10, 10 + i);
            if (i % 2 == 0) {
                x.dies(i, i + 1);
            }
            h = mix(h, 39 - i, i % 2 == 0 ? i + 1 : NONE);
            for (int year = 0; year < 40; year++) {
                h = mix(h, year >= 10 && year <= 10 + i ? i % 4 : 0);
            }
        }
        for (int i = 0; i < 30; i++) {
            boolean fee = i % 3 == 0;
            x.loan(2 * (i % 6), i % 5, 20 + i % 3, 1000 + i, fee);
            h = mix(h, 2 * (i % 6), i % 5, 20 + i % 3, 1000 + i, fee ? 1 : 0);
            boolean sold = i % 4 != 3;
            if (fee) {
                x.leave(i, 22 + i % 3);
            }
            if (sold) {
                x.sell(i, i % 4, i);
            }
            h = mix(h, fee ? 22 + i % 3 : NONE, sold ? i % 4 : NONE, sold ? i : NONE);
        }
        for (int i = 0; i < 60; i++) {
            x.act(i % 5, 1 + i % 2, i, i % 40, i % 20, 20 + i % 20);
            h = mix(h, i % 5, 1 + i % 2, i, i % 40, i % 20, 20 + i % 20);
        }
        for (int i = 0; i < 60; i++) {
            x.move(i % 30, i % 5, i % 40);
            h = mix(h, i % 30, i % 5, i % 40);
        }
        for (int i = 0; i < 20; i++) {
            x.promise(0, 0, 1);
            x.tell(i);
        }
        h = mix(h, textsOf(x));
        for (int i = 0; i < 30; i++) {
            h = mix(h, 0, 0);
        }
        is("38 of a full house", x.digest(), h);
    }

    /** Texts of 3, 0, 50, 1 and 2 characters, and what the digest has of them. */
    private static long[] textsOf(LearnLoans x) {
        String[] texts = {"r+1", "", "5".repeat(50), "?", "  "};
        long[] numbers = new long[5 + 3 + 50 + 1 + 2];
        int n = 0;
        for (int plan = 0; plan < 5; plan++) {
            Scene.write(x, plan, texts[plan]);
            numbers[n++] = texts[plan].length();
            for (char c : texts[plan].toCharArray()) {
                numbers[n++] = c;
            }
        }
        return numbers;
    }

    /** What is owed of each LOAN behind 39 and what was TAKEN of it in all, as known at 39. */
    private static void digestOfWhatIsOwed() {
        LearnLoans x = new LearnLoans();
        x.person(0);
        x.loan(0, 0, 37, 1000, false);
        x.loan(0, 1, 38, 5000, false);
        x.act(0, 2, 100, 0, 39, 39);
        x.land(0, 1, 38, 39);
        x.earn(0, 38, 2005000, 39);
        x.earn(0, 39, 0, 39);
        long h = mix(347, 1, 2, 1, 0, 0, 0);
        h = mix(h, 0, NONE);
        for (int year = 0; year < 40; year++) {
            h = mix(h, year < 38 ? 0 : 1);
        }
        h = mix(h, 0, 0, 37, 1000, 0, NONE, NONE, NONE);
        h = mix(h, 0, 1, 38, 5000, 0, NONE, NONE, NONE);
        h = mix(h, 0, 2, 100, 0, 39, 39);
        h = mix(h, 0, 0, 0, 0, 0);
        // 1030 less 450 grows to 597 in 39; the second grows to 5150.
        h = mix(h, 597, 450, 5150, 0);
        is("38 of what is owed", x.digest(), h);
    }
}
