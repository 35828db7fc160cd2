import java.util.Arrays;

/**
 * A land that lends what schools cost and takes it back from what is earned above a line.
 * The words in capitals are those of the document.
 */
public final class LearnLoans {
    public static final int NONE = -1, BAD = -2, NO = -3, FULL = -4;

    private static final int YEARS = 40, LAST_YEAR = YEARS - 1;
    private static final int PERSONS = 12, LANDS = 4, PLANS = 5, NUMBERS = 6;
    private static final int ACTS = 60, LOANS = 30, MOVES = 60, PROMISES = 20, TOLD = 9;
    private static final int BOOKS = 4, LIVES = 4, STATES = 4, IMAGES = 2;
    private static final int SIGNS = 50, OPEN = 8, DIGITS = 6, MOST_WAYS = 5;

    private static final int MOST_PENCE = 10000000, MOST_SUM = 1000000000;
    private static final int SCALE_AT_FIRST = 1000, NO_PRICES = -1000, MOST_RATE = 500;
    private static final int TENTHS = 10;
    private static final long MOST_OWED = 1000000000000L, NO_OVER = -1000000000000000L;
    private static final long MORE_THAN_ALL = 1000000000000000000L;

    private static final int LINE = 0, PART = 1, RATE = 2, TILL_STRUCK = 3, ORDER = 4, FIXED = 5;
    private static final int[] AT_FIRST = {2000000, 90, 30, 30, 0, 10000};
    private static final int[] LEAST = {0, 0, 0, 1, 0, 0};
    private static final int[] MOST = {10000000, 1000, 500, 60, 9, 1000000};

    // Columns of the rows in which ACTS, LOANS, moves and promises are kept: in the digest's order.
    private static final int ACT_PLAN = 0, ACT_WHICH = 1, ACT_NUMBER = 2, ACT_FROM = 3;
    private static final int ACT_BEGAN_FROM = 4, ACT_BEGAN_TO = 5, ACT_WIDE = 6;
    private static final int LOAN_PERSON = 0, LOAN_PLAN = 1, LOAN_YEAR = 2, LOAN_SUM = 3;
    private static final int LOAN_FEE = 4, LOAN_LEFT = 5, LOAN_BOOK = 6, LOAN_SOLD = 7, LOAN_WIDE = 8;
    private static final int MOVE_WIDE = 3;
    private static final int PROMISE_BOOK = 0, PROMISE_YEAR = 1, PROMISE_PENCE = 2, PROMISE_WIDE = 3;

    // Rows of a run's sums; the first five are numbered as owes and all ask for them.
    private static final int OWED = 0, TAKEN = 1, STRUCK = 2, TOTAL = 3, GROWN = 4, BOOKED = 5;
    private static final int SUMS = 6;

    private static final int WORK = 0, GAP = 1, ABROAD = 2, DEAD = 3;

    private final House house;
    private final House[] images;
    private final Run run;
    private final Ways ways;

    public LearnLoans() {
        ways = new Ways();
        run = ways.run;
        house = run.house;
        images = new House[IMAGES];
    }

    // ---- persons, lands, earnings

    public int person(int began) {
        if (!isYear(began)) {
            return BAD;
        }
        People people = house.people;
        if (people.size >= PERSONS) {
            return FULL;
        }
        people.began[people.size] = began;
        people.size++;
        return people.size - 1;
    }

    public int land(int person, int land, int from, int to) {
        if (!isPerson(person) || !within(land, 0, LANDS - 1) || !isSpan(from, to)) {
            return BAD;
        }
        lay(house.people.lands, person * YEARS + from, person * YEARS + to, land);
        return 1;
    }

    public int scale(int land, int v) {
        if (!within(land, 0, LANDS - 1) || !within(v, 1, 5000)) {
            return BAD;
        }
        int was = house.scales[land];
        house.scales[land] = v;
        return was;
    }

    public int prices(int year, int v) {
        if (!isYear(year) || !within(v, -100, 500)) {
            return NO_PRICES;
        }
        int were = house.prices[year];
        house.prices[year] = v;
        return were;
    }

    public int dies(int person, int year) {
        if (!isPerson(person) || !isYear(year)) {
            return BAD;
        }
        if (house.people.died[person] != NONE) {
            return NO;
        }
        house.people.died[person] = year;
        return 1;
    }

    public int earn(int person, int year, int pence, int known) {
        if (!isPerson(person) || !isSpan(year, known) || !isPence(pence)) {
            return BAD;
        }
        People people = house.people;
        int i = person * YEARS + year;
        if (people.firstKnown[i] != NONE) {
            return NO;
        }
        people.first[i] = pence;
        people.firstKnown[i] = known;
        return 1;
    }

    public int right(int person, int year, int pence, int known) {
        if (!isPerson(person) || !isYear(year) || !isPence(pence) || !isYear(known)) {
            return BAD;
        }
        People people = house.people;
        int i = person * YEARS + year;
        // Where nothing is told yet firstKnown is NONE, so that no YEAR is too early.
        if (known < people.firstKnown[i]) {
            return BAD;
        }
        if (people.firstKnown[i] == NONE || people.secondKnown[i] != NONE) {
            return NO;
        }
        people.second[i] = pence;
        people.secondKnown[i] = known;
        return 1;
    }

    public int earnings(int person, int year, int k) {
        if (!isPerson(person) || !isYear(year) || !isYear(k)) {
            return BAD;
        }
        return house.people.earned(person, year, k);
    }

    // ---- plans, loans

    public int act(int plan, int what, int v, int from, int beganFrom, int beganTo) {
        if (!isPlan(plan) || !isNumber(what, v) || !isYear(from) || !isSpan(beganFrom, beganTo)) {
            return BAD;
        }
        if (house.acts.size >= ACTS) {
            return FULL;
        }
        return house.addAct(plan, what, v, from, beganFrom, beganTo);
    }

    public int force(int plan, int what, int person, int year) {
        if (!isPlan(plan) || !within(what, 0, NUMBERS - 1) || !isPerson(person) || !isYear(year)) {
            return BAD;
        }
        run.layNumbers(person);
        return run.numbers[(year * PLANS + plan) * NUMBERS + what];
    }

    public int loan(int person, int plan, int year, int sum, boolean fee) {
        if (!isPerson(person) || !isPlan(plan) || !isYear(year) || !isPence(sum) || sum == 0) {
            return BAD;
        }
        Rows loans = house.loans;
        if (loans.size >= LOANS) {
            return FULL;
        }
        int loan = loans.add(person, plan, year);
        loans.put(loan, LOAN_SUM, sum);
        loans.put(loan, LOAN_FEE, fee ? 1 : 0);
        loans.put(loan, LOAN_LEFT, NONE);
        loans.put(loan, LOAN_BOOK, NONE);
        loans.put(loan, LOAN_SOLD, NONE);
        lay(house.planAt, loan * YEARS, loan * YEARS + LAST_YEAR, plan);
        return loan;
    }

    public int leave(int loan, int year) {
        if (!isLoan(loan) || !isYear(year)) {
            return BAD;
        }
        Rows loans = house.loans;
        if (loans.at(loan, LOAN_FEE) != 1 || year < loans.at(loan, LOAN_YEAR)) {
            return BAD;
        }
        if (loans.at(loan, LOAN_LEFT) != NONE) {
            return NO;
        }
        loans.put(loan, LOAN_LEFT, year);
        return (int) house.givenBack(loan);
    }

    public int move(int loan, int plan, int year) {
        if (!isLoan(loan) || !isPlan(plan) || !isYear(year)) {
            return BAD;
        }
        if (house.moves.size >= MOVES) {
            return FULL;
        }
        house.moves.add(loan, plan, year);
        // The latest told counts, whatever its YEAR: it goes over all that was told before.
        lay(house.planAt, loan * YEARS + year, loan * YEARS + LAST_YEAR, plan);
        return 1;
    }

    public int planOf(int loan, int year) {
        if (!isLoan(loan) || !isYear(year)) {
            return BAD;
        }
        return house.planAt[loan * YEARS + year];
    }

    // ---- runs

    public long owes(int loan, int year, int k, int what) {
        if (!isLoan(loan) || !isYear(year) || !isYear(k) || !within(what, OWED, GROWN)) {
            return BAD;
        }
        run.begin(house.loans.at(loan, LOAN_PERSON), k);
        run.go(year);
        return run.sums[what * LOANS + loan];
    }

    public long all(int person, int year, int k, int what) {
        if (!isPerson(person) || !isYear(year) || !isYear(k) || !within(what, OWED, GROWN)) {
            return BAD;
        }
        return together(person, year, k, what);
    }

    public int rate(int loan, int year, int k) {
        if (!isLoan(loan) || !isYear(year) || !isYear(k)) {
            return BAD;
        }
        run.begin(house.loans.at(loan, LOAN_PERSON), k);
        run.go(year - 1);
        run.look(year);
        return run.rateOf(loan, year);
    }

    public long over(int person, int year, int k) {
        if (!isPerson(person) || !isYear(year) || !isYear(k)) {
            return NO_OVER;
        }
        return together(person, year, year, TAKEN) - together(person, year, k, TAKEN);
    }

    // ---- texts

    public int write(int plan, int character) {
        if (!isPlan(plan) || !within(character, 0, 127)) {
            return BAD;
        }
        Text text = house.texts[plan];
        if (text.size >= SIGNS) {
            return FULL;
        }
        text.add(character);
        return text.size;
    }

    public int erase(int plan) {
        if (!isPlan(plan)) {
            return BAD;
        }
        Text text = house.texts[plan];
        int were = text.size;
        text.clear();
        return were;
    }

    public int fault(int plan) {
        return isPlan(plan) ? house.texts[plan].wrong : BAD;
    }

    // ---- books

    public int sell(int loan, int book, int year) {
        if (!isLoan(loan) || !within(book, 0, BOOKS - 1) || !isYear(year)) {
            return BAD;
        }
        if (house.loans.at(loan, LOAN_BOOK) != NONE) {
            return NO;
        }
        house.loans.put(loan, LOAN_BOOK, book);
        house.loans.put(loan, LOAN_SOLD, year);
        return 1;
    }

    public int promise(int book, int year, int pence) {
        if (!within(book, 0, BOOKS - 1) || !isYear(year) || !within(pence, 1, MOST_SUM)) {
            return BAD;
        }
        if (house.promises.size >= PROMISES) {
            return FULL;
        }
        return house.promises.add(book, year, pence) + 1;
    }

    public long book(int book, int year, int k, int what) {
        if (!within(book, 0, BOOKS - 1) || !isYear(year) || !isYear(k) || !within(what, 0, 1)) {
            return BAD;
        }
        runEverybody(year, k);
        long has = 0;
        for (int loan = 0; loan < house.loans.size; loan++) {
            if (house.loans.at(loan, LOAN_BOOK) == book) {
                has += run.sums[BOOKED * LOANS + loan];
            }
        }
        return what == 0 ? has : Math.max(0, house.promised(book, year) - has);
    }

    // ---- lives, chances, other numbers

    public int live(int life, int from, int to, int pence) {
        if (!within(life, 0, LIVES - 1) || !isSpan(from, to) || !isPence(pence)) {
            return BAD;
        }
        lay(house.lives, life * YEARS + from, life * YEARS + to, pence);
        return 1;
    }

    public int early(int person, int sum, int y, int k) {
        if (!isPerson(person) || !within(sum, 1, MOST_SUM) || !isYear(y) || !isYear(k)) {
            return BAD;
        }
        int lives = 0;
        for (int life = 0; life < LIVES; life++) {
            long without = takenByLife(person, NONE, life, y, k, 0);
            long with = takenByLife(person, NONE, life, y, k, sum) + run.paid;
            if (with < without) {
                lives |= 1 << life;
            }
        }
        return lives;
    }

    public long choice(int person, int plan, int life, int y, int k) {
        if (!isPerson(person) || !isPlan(plan) && plan != NONE || !within(life, 0, LIVES - 1)) {
            return BAD;
        }
        if (!isYear(y) || !isYear(k)) {
            return BAD;
        }
        return takenByLife(person, plan, life, y, k, 0);
    }

    public int chances(int state, int work, int gap, int abroad, int dead) {
        if (!within(state, WORK, ABROAD) || !isChance(work) || !isChance(gap)) {
            return BAD;
        }
        if (!isChance(abroad) || !isChance(dead) || work + gap + abroad + dead != TENTHS) {
            return BAD;
        }
        int row = state * STATES;
        house.chances[row + WORK] = work;
        house.chances[row + GAP] = gap;
        house.chances[row + ABROAD] = abroad;
        house.chances[row + DEAD] = dead;
        return 1;
    }

    public long foretold(int person, int state, int pence, int y, int n, int what) {
        if (!isPerson(person) || !within(state, WORK, DEAD) || !isPence(pence)) {
            return BAD;
        }
        if (!isYear(y) || !within(n, 1, MOST_WAYS) || y + n > YEARS || !within(what, 0, 3)) {
            return BAD;
        }
        ways.follow(person, state, pence, y, n);
        switch (what) {
            case 0: return ways.mean;
            case 1: return ways.least;
            case 2: return ways.greatest;
            default: return ways.never;
        }
    }

    public long tried(int plan, int what, int v, int from, int year) {
        if (!isPlan(plan) || !isNumber(what, v) || !isYear(from) || !isYear(year)) {
            return BAD;
        }
        return takenIf(plan, what, v, from, year);
    }

    public int tell(int v) {
        if (!isPence(v)) {
            return BAD;
        }
        if (house.toldSize >= TOLD) {
            return FULL;
        }
        house.told[house.toldSize] = v;
        house.toldSize++;
        return house.toldSize;
    }

    public int untell() {
        int were = house.toldSize;
        house.toldSize = 0;
        return were;
    }

    public int best(int plan, int what, int from, int year, int person, long asked) {
        if (!isPlan(plan) || !within(what, 0, NUMBERS - 1) || !isYear(from) || !isYear(year)) {
            return BAD;
        }
        if (!isPerson(person)) {
            return BAD;
        }
        int now = force(plan, what, person, year);
        int nearest = NONE;
        for (int i = 0; i < house.toldSize && i < TOLD; i++) {
            int v = house.told[i];
            if (isNumber(what, v) && isNearer(v, nearest, now)
                    && takenIf(plan, what, v, from, year) >= asked) {
                nearest = v;
            }
        }
        return nearest;
    }

    // ---- images

    public int image(int i) {
        if (!within(i, 0, IMAGES - 1)) {
            return BAD;
        }
        if (images[i] == null) {
            images[i] = new House();
        }
        images[i].takeOver(house);
        return 1;
    }

    public int from(int i) {
        if (!within(i, 0, IMAGES - 1)) {
            return BAD;
        }
        if (images[i] == null) {
            return NO;
        }
        house.takeOver(images[i]);
        return 1;
    }

    public int count(int what) {
        switch (what) {
            case 0: return house.people.size;
            case 1: return house.loans.size;
            case 2: return house.acts.size;
            case 3: return house.moves.size;
            case 4: return house.promises.size;
            case 5: return house.toldSize;
            default: return BAD;
        }
    }

    public long digest() {
        long h = 347;
        for (int what = 0; what <= 5; what++) {
            h = 31 * h + count(what);
        }
        h = house.people.mixed(h);
        h = house.loans.mixed(h);
        h = house.acts.mixed(h);
        h = house.moves.mixed(h);
        for (int plan = 0; plan < PLANS; plan++) {
            h = house.texts[plan].mixed(h);
        }
        runEverybody(LAST_YEAR, LAST_YEAR);
        for (int loan = 0; loan < house.loans.size; loan++) {
            h = 31 * h + run.sums[OWED * LOANS + loan];
            h = 31 * h + run.sums[TOTAL * LOANS + loan];
        }
        return h;
    }

    // ---- what is as told

    private static boolean within(int v, int least, int most) {
        return v >= least && v <= most;
    }

    private static boolean isYear(int year) {
        return year >= 0 && year < YEARS;
    }

    private static boolean isSpan(int from, int to) {
        return from >= 0 && from <= to && to < YEARS;
    }

    private static boolean isPence(int pence) {
        return pence >= 0 && pence <= MOST_PENCE;
    }

    private static boolean isPlan(int plan) {
        return plan >= 0 && plan < PLANS;
    }

    private static boolean isNumber(int what, int v) {
        return what >= 0 && what < NUMBERS && v >= LEAST[what] && v <= MOST[what];
    }

    private static boolean isChance(int tenths) {
        return tenths >= 0 && tenths <= TENTHS;
    }

    private boolean isPerson(int person) {
        return person >= 0 && person < house.people.size;
    }

    private boolean isLoan(int loan) {
        return loan >= 0 && loan < house.loans.size;
    }

    private static void lay(int[] cells, int from, int to, int v) {
        for (int i = Math.max(from, 0); i <= to && i < cells.length; i++) {
            cells[i] = v;
        }
    }

    // ---- sums over runs

    private long together(int person, int year, int k, int what) {
        run.begin(person, k);
        run.go(year);
        return run.together(what);
    }

    private void runEverybody(int year, int k) {
        for (int person = 0; person < house.people.size; person++) {
            run.begin(person, k);
            run.go(year);
        }
    }

    /** What is TAKEN from y on; what of the sum could be paid ahead of it stands in run.paid. */
    private long takenByLife(int person, int plan, int life, int y, int k, int sum) {
        run.begin(person, k);
        run.go(y - 1);
        long ahead = run.together(TOTAL);
        run.turnTo(life, plan, sum);
        run.go(LAST_YEAR);
        return run.together(TOTAL) - ahead;
    }

    private long takenIf(int plan, int what, int v, int from, int year) {
        // The rows have room for one ACT more than may be told, so that this one always fits.
        house.addAct(plan, what, v, from, 0, LAST_YEAR);
        long taken = 0;
        for (int person = 0; person < house.people.size; person++) {
            run.begin(person, LAST_YEAR);
            run.go(year);
            taken += run.together(TAKEN);
        }
        house.acts.dropLast();
        return taken;
    }

    private static boolean isNearer(int v, int nearest, int now) {
        if (nearest == NONE) {
            return true;
        }
        int far = Math.abs(v - now);
        int farBefore = Math.abs(nearest - now);
        return far < farBefore || far == farBefore && v < nearest;
    }

    // ---- what is told

    /** Rows of numbers, as they come. */
    private static final class Rows {
        private final int[] cells;
        private final int wide;
        int size;

        Rows(int[] cells, int wide) {
            this.cells = cells;
            this.wide = wide;
        }

        int at(int row, int column) {
            int i = row * wide + column;
            return i >= 0 && i < cells.length ? cells[i] : NONE;
        }

        void put(int row, int column, int v) {
            int i = row * wide + column;
            if (column < wide && i >= 0 && i < cells.length) {
                cells[i] = v;
            }
        }

        /** A row more, of which the first three numbers are told; answers its number. */
        int add(int a, int b, int c) {
            put(size, 0, a);
            put(size, 1, b);
            put(size, 2, c);
            size++;
            return size - 1;
        }

        void dropLast() {
            if (size > 0) {
                size--;
            }
        }

        void takeOver(Rows other) {
            System.arraycopy(other.cells, 0, cells, 0, Math.min(cells.length, other.cells.length));
            size = other.size;
        }

        long mixed(long h) {
            int end = Math.min(size * wide, cells.length);
            for (int i = 0; i < end; i++) {
                h = 31 * h + cells[i];
            }
            return h;
        }
    }

    /** PERSONS with their LANDS and EARNINGS; a row of YEARS for each. */
    private static final class People {
        final int[] began = new int[PERSONS];
        final int[] died = new int[PERSONS];
        final int[] lands = new int[PERSONS * YEARS];
        final int[] first = new int[PERSONS * YEARS];
        final int[] firstKnown = new int[PERSONS * YEARS];
        final int[] second = new int[PERSONS * YEARS];
        final int[] secondKnown = new int[PERSONS * YEARS];
        int size;

        People() {
            Arrays.fill(died, NONE);
            Arrays.fill(firstKnown, NONE);
            Arrays.fill(secondKnown, NONE);
        }

        int earned(int person, int year, int k) {
            int i = person * YEARS + year;
            if (i < 0 || i >= first.length) {
                return NONE;
            }
            if (secondKnown[i] != NONE && secondKnown[i] <= k) {
                return second[i];
            }
            return firstKnown[i] != NONE && firstKnown[i] <= k ? first[i] : NONE;
        }

        boolean isDead(int person, int year) {
            return died[person] != NONE && died[person] <= year;
        }

        void takeOver(People other) {
            System.arraycopy(other.began, 0, began, 0, PERSONS);
            System.arraycopy(other.died, 0, died, 0, PERSONS);
            System.arraycopy(other.lands, 0, lands, 0, PERSONS * YEARS);
            System.arraycopy(other.first, 0, first, 0, PERSONS * YEARS);
            System.arraycopy(other.firstKnown, 0, firstKnown, 0, PERSONS * YEARS);
            System.arraycopy(other.second, 0, second, 0, PERSONS * YEARS);
            System.arraycopy(other.secondKnown, 0, secondKnown, 0, PERSONS * YEARS);
            size = other.size;
        }

        long mixed(long h) {
            for (int person = 0; person < size && person < PERSONS; person++) {
                h = 31 * h + began[person];
                h = 31 * h + died[person];
                for (int year = 0; year < YEARS; year++) {
                    h = 31 * h + lands[person * YEARS + year];
                }
            }
            return h;
        }
    }

    /** All that is told but the IMAGES. */
    private static final class House {
        final People people = new People();
        final int[] scales = new int[LANDS];
        final int[] prices = new int[YEARS];
        final Rows acts = new Rows(new int[(ACTS + 1) * ACT_WIDE], ACT_WIDE);
        final Rows loans = new Rows(new int[LOANS * LOAN_WIDE], LOAN_WIDE);
        final Rows moves = new Rows(new int[MOVES * MOVE_WIDE], MOVE_WIDE);
        final int[] planAt = new int[LOANS * YEARS];
        final Text[] texts = new Text[PLANS];
        final Rows promises = new Rows(new int[PROMISES * PROMISE_WIDE], PROMISE_WIDE);
        final int[] lives = new int[LIVES * YEARS];
        final int[] chances = new int[STATES * STATES];
        final int[] told = new int[TOLD];
        int toldSize;

        House() {
            Arrays.fill(scales, SCALE_AT_FIRST);
            for (int plan = 0; plan < PLANS; plan++) {
                texts[plan] = new Text();
            }
            for (int state = 0; state < STATES; state++) {
                chances[state * STATES + state] = TENTHS;
            }
        }

        int addAct(int plan, int what, int v, int from, int beganFrom, int beganTo) {
            int act = acts.add(plan, what, v);
            acts.put(act, ACT_FROM, from);
            acts.put(act, ACT_BEGAN_FROM, beganFrom);
            acts.put(act, ACT_BEGAN_TO, beganTo);
            return act;
        }

        long givenBack(int loan) {
            long sum = loans.at(loan, LOAN_SUM);
            int since = loans.at(loan, LOAN_LEFT) - loans.at(loan, LOAN_YEAR);
            if (since == 0) {
                return sum * 750 / 1000;
            }
            return since == 1 ? sum * 500 / 1000 : 0;
        }

        long promised(int book, int year) {
            long pence = 0;
            for (int i = 0; i < promises.size; i++) {
                if (promises.at(i, PROMISE_BOOK) == book && promises.at(i, PROMISE_YEAR) <= year) {
                    pence += promises.at(i, PROMISE_PENCE);
                }
            }
            return pence;
        }

        void takeOver(House other) {
            people.takeOver(other.people);
            System.arraycopy(other.scales, 0, scales, 0, LANDS);
            System.arraycopy(other.prices, 0, prices, 0, YEARS);
            acts.takeOver(other.acts);
            loans.takeOver(other.loans);
            moves.takeOver(other.moves);
            System.arraycopy(other.planAt, 0, planAt, 0, LOANS * YEARS);
            for (int plan = 0; plan < PLANS; plan++) {
                texts[plan].takeOver(other.texts[plan]);
            }
            promises.takeOver(other.promises);
            System.arraycopy(other.lives, 0, lives, 0, LIVES * YEARS);
            System.arraycopy(other.chances, 0, chances, 0, STATES * STATES);
            System.arraycopy(other.told, 0, told, 0, TOLD);
            toldSize = other.toldSize;
        }
    }

    // ---- texts

    /**
     * A TEXT with what was read from it: numbers as they are, signs below 0, each behind what it
     * works on, so that a run works it with a stack and without reading it again.
     */
    private static final class Text {
        private static final int OR = 0, AND = 1, HELD = 2, SUM = 3, TERM = 4, UNIT = 5;
        private static final int MOST_DEEP = 40;

        private final int[] signs = new int[SIGNS];
        private final int[] code = new int[SIGNS];
        private int codes;
        private int place;
        private int open;
        int size;
        int wrong = 1;

        void add(int sign) {
            if (size >= SIGNS) {
                return;
            }
            signs[size] = sign;
            size++;
            codes = 0;
            place = 0;
            open = 0;
            wrong = NONE;
            readValue(0);
            if (next() != NONE) {
                blame(place, 1);
            }
        }

        void clear() {
            size = 0;
            codes = 0;
            wrong = 1;
        }

        void takeOver(Text other) {
            System.arraycopy(other.signs, 0, signs, 0, SIGNS);
            System.arraycopy(other.code, 0, code, 0, SIGNS);
            size = other.size;
            codes = other.codes;
            wrong = other.wrong;
        }

        long mixed(long h) {
            h = 31 * h + size;
            for (int i = 0; i < size && i < SIGNS; i++) {
                h = 31 * h + signs[i];
            }
            return h;
        }

        /** The first fault stays: what is read behind it means nothing. */
        private void blame(int at, int kind) {
            if (wrong == NONE) {
                wrong = 10 * at + kind;
            }
        }

        private void emit(int v) {
            if (codes < SIGNS) {
                code[codes] = v;
                codes++;
            }
        }

        private int next() {
            while (place < size && signs[place] == ' ') {
                place++;
            }
            return place < size ? signs[place] : NONE;
        }

        private void pass(int sign) {
            if (wrong == NONE && next() == sign) {
                place++;
            } else {
                blame(place, 1);
            }
        }

        private void readValue(int deep) {
            if (deep > MOST_DEEP) {
                blame(place, 1);
                return;
            }
            readChain(OR, deep);
            if (wrong == NONE && next() == '?') {
                place++;
                readValue(deep + 1);
                pass(':');
                readValue(deep + 1);
                emit(-'?');
            }
        }

        private void readChain(int level, int deep) {
            if (level >= UNIT) {
                int begin = place;
                int end = passSigns();
                readPlain(deep);
                emitSigns(begin, end);
                return;
            }
            readChain(level + 1, deep);
            int most = level == HELD ? 1 : SIGNS;
            for (int i = 0; i < most && wrong == NONE && levelOf(next()) == level; i++) {
                int sign = signs[place];
                place++;
                readChain(level + 1, deep);
                emit(-sign);
            }
        }

        private static int levelOf(int sign) {
            switch (sign) {
                case '|': return OR;
                case '&': return AND;
                case '<': case '>': case '=': return HELD;
                case '+': case '-': return SUM;
                case '*': case '/': return TERM;
                default: return UNIT;
            }
        }

        /** Passes the signs ahead of a unit; answers where they end. */
        private int passSigns() {
            int sign = next();
            while (place < size && (sign == '!' || sign == '-')) {
                place++;
                sign = next();
            }
            return place;
        }

        /** The sign nearest to the unit works first. */
        private void emitSigns(int begin, int end) {
            for (int i = end - 1; i >= begin && i < SIGNS; i--) {
                if (signs[i] == '!') {
                    emit(-'!');
                } else if (signs[i] == '-') {
                    emit(-'~');
                }
            }
        }

        private void readPlain(int deep) {
            int sign = next();
            if (wrong != NONE) {
                return;
            }
            if (isDigit(sign)) {
                readDigits();
            } else if (operands(sign) == 0) {
                place++;
                emit(-sign);
            } else if (sign != '(') {
                blame(place, 1);
            } else if (open >= OPEN) {
                blame(place, 3);
            } else {
                place++;
                open++;
                readValue(deep + 1);
                pass(')');
                open--;
            }
        }

        private void readDigits() {
            int begin = place;
            int v = 0;
            while (place < size && isDigit(signs[place])) {
                if (place - begin >= DIGITS) {
                    blame(begin, 2);
                    return;
                }
                v = 10 * v + signs[place] - '0';
                place++;
            }
            emit(v);
        }

        private static boolean isDigit(int sign) {
            return sign >= '0' && sign <= '9';
        }

        /** What the TEXT tells, with the letters' values; only for a TEXT without a FAULT. */
        long worked(Letters letters, long[] stack) {
            int top = 0;
            for (int i = 0; i < codes && i < SIGNS; i++) {
                int c = code[i];
                int needs = c >= 0 ? 0 : operands(-c);
                if (top < needs || top - needs >= stack.length) {
                    return 0;
                }
                top -= needs;
                if (c >= 0) {
                    stack[top] = c;
                } else if (needs == 0) {
                    stack[top] = letters.valueOf(-c);
                } else if (needs == 1) {
                    stack[top] = c == -'!' ? (stack[top] == 0 ? 1 : 0) : -stack[top];
                } else if (needs == 2) {
                    stack[top] = joined(-c, stack[top], stack[top + 1]);
                } else {
                    stack[top] = stack[top] != 0 ? stack[top + 1] : stack[top + 2];
                }
                top++;
            }
            return top > 0 && stack.length > 0 ? stack[0] : 0;
        }

        private static int operands(int sign) {
            switch (sign) {
                case 'r': case 'p': case 'e': case 'l': case 'y': case 'o': case 'a': return 0;
                case '!': case '~': return 1;
                case '?': return 3;
                default: return 2;
            }
        }

        private static long joined(int sign, long a, long b) {
            switch (sign) {
                case '|': return a != 0 || b != 0 ? 1 : 0;
                case '&': return a != 0 && b != 0 ? 1 : 0;
                case '<': return a < b ? 1 : 0;
                case '>': return a > b ? 1 : 0;
                case '=': return a == b ? 1 : 0;
                case '+': return a + b;
                case '-': return a - b;
                case '*': return a * b;
                default: return b == 0 ? 0 : a / b;
            }
        }
    }

    /** What the letters of a TEXT stand for. */
    private static final class Letters {
        long rate, prices, earned, line, years, owed, land;

        long valueOf(int sign) {
            switch (sign) {
                case 'r': return rate;
                case 'p': return prices;
                case 'e': return earned;
                case 'l': return line;
                case 'y': return years;
                case 'o': return owed;
                default: return land;
            }
        }
    }

    // ---- runs

    /** THE RUN of one PERSON; its rows are made once and used again by every call. */
    private static final class Run {
        final House house = new House();
        final int[] numbers = new int[YEARS * PLANS * NUMBERS];
        final long[] sums = new long[SUMS * LOANS];
        private final int[] mine = new int[LOANS];
        private final int[] queue = new int[LOANS];
        private final Letters letters = new Letters();
        private final long[] stack = new long[SIGNS];
        private int size;
        private int person;
        private int known;
        private int nextYear;
        private int life;
        private int plan;
        private boolean deadAhead;
        private long due;
        long paid;
        int earned;
        int land;
        boolean dead;

        void begin(int person, int known) {
            this.person = person;
            this.known = known;
            nextYear = 0;
            turnTo(NONE, NONE, 0);
            size = 0;
            for (int loan = 0; loan < house.loans.size && loan < LOANS; loan++) {
                if (house.loans.at(loan, LOAN_PERSON) == person) {
                    mine[size] = loan;
                    size++;
                    for (int what = 0; what < SUMS; what++) {
                        sums[what * LOANS + loan] = 0;
                    }
                }
            }
            if (size > 0) {
                layNumbers(person);
            }
        }

        /** From the next YEAR on: a LIFE and a PLAN for all LOANS, if not NONE; a sum paid in it. */
        void turnTo(int life, int plan, long sum) {
            this.life = life;
            this.plan = plan;
            // Nobody DIES from here on, but that somebody DIED ahead of it stays so.
            deadAhead = house.people.isDead(person, nextYear - 1);
            due = sum;
            paid = 0;
        }

        void go(int to) {
            for (int year = nextYear; year <= to && year < YEARS; year++) {
                look(year);
                turn(year);
                nextYear = year + 1;
            }
        }

        /**
         * Lays out what is IN FORCE for a PERSON: YEAR by YEAR and in the order of their numbers
         * ACTS go over those before them, so that the latest YEAR and the greatest number is left.
         */
        void layNumbers(int person) {
            int wide = PLANS * NUMBERS;
            for (int i = 0; i < wide; i++) {
                numbers[i] = AT_FIRST[i % NUMBERS];
            }
            for (int year = 0; year < YEARS; year++) {
                if (year > 0) {
                    System.arraycopy(numbers, (year - 1) * wide, numbers, year * wide, wide);
                }
                for (int i = 0; i < house.acts.size; i++) {
                    if (house.acts.at(i, ACT_FROM) == year) {
                        layAct(i, year, house.people.began[person]);
                    }
                }
            }
        }

        private void layAct(int i, int year, int began) {
            Rows acts = house.acts;
            if (began >= acts.at(i, ACT_BEGAN_FROM) && began <= acts.at(i, ACT_BEGAN_TO)) {
                int cell = (year * PLANS + acts.at(i, ACT_PLAN)) * NUMBERS + acts.at(i, ACT_WHICH);
                if (cell >= 0 && cell < numbers.length) {
                    numbers[cell] = acts.at(i, ACT_NUMBER);
                }
            }
        }

        void look(int year) {
            if (life != NONE) {
                suppose(house.lives[life * YEARS + year], 0, deadAhead);
            } else {
                suppose(house.people.earned(person, year, known),
                        house.people.lands[person * YEARS + year],
                        house.people.isDead(person, year));
            }
        }

        void suppose(int earned, int land, boolean dead) {
            this.earned = earned;
            this.land = land;
            this.dead = dead;
        }

        void turn(int year) {
            for (int i = 0; i < size; i++) {
                int loan = mine[i];
                long owed = sums[OWED * LOANS + loan];
                boolean struck = isStruck(loan, year);
                sums[STRUCK * LOANS + loan] = struck ? owed : 0;
                sums[GROWN * LOANS + loan] = 0;
                if (struck) {
                    sums[OWED * LOANS + loan] = 0;
                    continue;
                }
                if (owed > 0) {
                    grow(loan, rateOf(loan, year));
                }
                draw(loan, year);
            }
            lineUp(year);
            if (due > 0) {
                payAhead();
            }
            takeAll(year);
        }

        private boolean isStruck(int loan, int year) {
            int since = year - house.loans.at(loan, LOAN_YEAR);
            return dead || since >= numbers[cellOf(loan, year) + TILL_STRUCK];
        }

        private void grow(int loan, int rate) {
            long owed = sums[OWED * LOANS + loan];
            long grown = Math.min(owed * rate / 1000, MOST_OWED - owed);
            sums[GROWN * LOANS + loan] = grown;
            sums[OWED * LOANS + loan] = owed + grown;
        }

        /** What is drawn in this YEAR comes, what is given back in it goes. */
        private void draw(int loan, int year) {
            long owed = sums[OWED * LOANS + loan];
            if (year == house.loans.at(loan, LOAN_YEAR)) {
                owed += house.loans.at(loan, LOAN_SUM);
            }
            if (year == house.loans.at(loan, LOAN_LEFT)) {
                owed -= Math.min(owed, house.givenBack(loan));
            }
            sums[OWED * LOANS + loan] = owed;
        }

        private int planIn(int loan, int year) {
            return plan != NONE ? plan : house.planAt[loan * YEARS + year];
        }

        private int cellOf(int loan, int year) {
            return (year * PLANS + planIn(loan, year)) * NUMBERS;
        }

        int rateOf(int loan, int year) {
            int cell = cellOf(loan, year);
            Text text = house.texts[planIn(loan, year)];
            if (text.wrong != NONE) {
                return numbers[cell + RATE];
            }
            letters.rate = numbers[cell + RATE];
            letters.prices = house.prices[year];
            letters.earned = earned;
            letters.line = numbers[cell + LINE];
            letters.years = year - house.loans.at(loan, LOAN_YEAR);
            letters.owed = sums[OWED * LOANS + loan];
            letters.land = land;
            long told = text.worked(letters, stack);
            return (int) Math.max(0, Math.min(MOST_RATE, told));
        }

        private void lineUp(int year) {
            int lined = 0;
            for (int order = 0; order <= MOST[ORDER]; order++) {
                for (int i = 0; i < size && lined < LOANS; i++) {
                    if (numbers[cellOf(mine[i], year) + ORDER] == order) {
                        queue[lined] = mine[i];
                        lined++;
                    }
                }
            }
        }

        private void payAhead() {
            for (int i = 0; i < size; i++) {
                int cell = OWED * LOANS + queue[i];
                long pays = Math.min(due, sums[cell]);
                sums[cell] -= pays;
                due -= pays;
                paid += pays;
            }
            due = 0;
        }

        private void takeAll(int year) {
            long ahead = 0;
            for (int i = 0; i < size; i++) {
                int loan = queue[i];
                long rest = Math.max(0, asked(cellOf(loan, year)) - ahead);
                long taken = Math.min(rest, sums[OWED * LOANS + loan]);
                ahead += taken;
                sums[OWED * LOANS + loan] -= taken;
                sums[TAKEN * LOANS + loan] = taken;
                sums[TOTAL * LOANS + loan] += taken;
                int sold = house.loans.at(loan, LOAN_SOLD);
                if (sold != NONE && year >= sold) {
                    sums[BOOKED * LOANS + loan] += taken;
                }
            }
        }

        /** What a PLAN asks of this YEAR's EARNINGS, whatever is owed. */
        private long asked(int cell) {
            if (earned == NONE) {
                return land == 0 ? 0 : numbers[cell + FIXED];
            }
            long line = numbers[cell + LINE];
            if (land != 0) {
                line = line * house.scales[land] / 1000;
            }
            return Math.max(0, earned - line) * numbers[cell + PART] / 1000;
        }

        long together(int what) {
            long sum = 0;
            for (int i = 0; i < size; i++) {
                sum += sums[what * LOANS + mine[i]];
            }
            return sum;
        }
    }

    /** All ways that CHANCES may go from a state on. */
    private static final class Ways {
        final Run run = new Run();
        private final long[] owedAhead = new long[MOST_WAYS * LOANS];
        private int year;
        private int years;
        private int pence;
        long mean, least, greatest, never;

        void follow(int person, int state, int pence, int y, int n) {
            year = y;
            years = n;
            this.pence = pence;
            mean = 0;
            never = 0;
            least = MORE_THAN_ALL;
            greatest = 0;
            run.begin(person, LAST_YEAR);
            run.go(y - 1);
            System.arraycopy(run.sums, OWED * LOANS, owedAhead, 0, LOANS);
            walk(this, 0, state, 1, 0, 0);
        }

        private static void walk(Ways w, int deep, int state, long chance, long taken, long struck) {
            if (deep >= MOST_WAYS) {
                return;
            }
            Run run = w.run;
            System.arraycopy(w.owedAhead, deep * LOANS, run.sums, OWED * LOANS, LOANS);
            int earned = state == WORK ? w.pence : state == GAP ? 0 : NONE;
            run.suppose(earned, state == ABROAD ? 1 : 0, state == DEAD);
            run.turn(w.year + deep);
            taken += run.together(TAKEN);
            struck += run.together(STRUCK);
            int next = deep + 1;
            if (next >= w.years || next >= MOST_WAYS) {
                w.end(chance, taken, struck + run.together(OWED));
                return;
            }
            System.arraycopy(run.sums, OWED * LOANS, w.owedAhead, next * LOANS, LOANS);
            for (int to = 0; to < STATES; to++) {
                int tenths = run.house.chances[state * STATES + to];
                if (tenths > 0) {
                    walk(w, next, to, chance * tenths, taken, struck);
                }
            }
        }

        private void end(long chance, long taken, long lost) {
            mean += chance * taken;
            never += chance * lost;
            least = Math.min(least, taken);
            greatest = Math.max(greatest, taken);
        }
    }
}
