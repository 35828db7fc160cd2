import java.util.ArrayList;
import java.util.Arrays;
import java.util.Comparator;
import java.util.List;
import java.util.TreeMap;

/**
 * The document written down once more, as slowly and plainly as can be: nothing is laid out ahead,
 * texts are worked while they are read, ways are walked one by one. RandomRunsTest holds the
 * class against it.
 */
final class Model {
    static final int NONE = -1, BAD = -2, NO = -3, FULL = -4;
    private static final int[] AT_FIRST = {2000000, 90, 30, 30, 0, 10000};
    private static final int[] LEAST = {0, 0, 0, 1, 0, 0};
    private static final int[] MOST = {10000000, 1000, 500, 60, 9, 1000000};

    private static final class Person {
        int began;
        int died = NONE;
        int[] lands = new int[40];
        TreeMap<Integer, int[]> earnings = new TreeMap<>();

        Person copy() {
            Person copy = new Person();
            copy.began = began;
            copy.died = died;
            copy.lands = lands.clone();
            earnings.forEach((year, told) -> copy.earnings.put(year, told.clone()));
            return copy;
        }
    }

    private static final class Loan {
        int person, plan, year, sum, left = NONE, book = NONE, from = NONE;
        boolean fee;

        Loan copy() {
            Loan copy = new Loan();
            copy.person = person;
            copy.plan = plan;
            copy.year = year;
            copy.sum = sum;
            copy.fee = fee;
            copy.left = left;
            copy.book = book;
            copy.from = from;
            return copy;
        }
    }

    private static final class Told {
        List<Person> persons = new ArrayList<>();
        List<Loan> loans = new ArrayList<>();
        List<int[]> acts = new ArrayList<>();
        List<int[]> moves = new ArrayList<>();
        List<int[]> promises = new ArrayList<>();
        List<Integer> numbers = new ArrayList<>();
        int[] scales = {1000, 1000, 1000, 1000};
        int[] prices = new int[40];
        String[] texts = {"", "", "", "", ""};
        int[][] lives = new int[4][40];
        int[][] chances = {{10, 0, 0, 0}, {0, 10, 0, 0}, {0, 0, 10, 0}, {0, 0, 0, 10}};

        Told copy() {
            Told copy = new Told();
            persons.forEach(person -> copy.persons.add(person.copy()));
            loans.forEach(loan -> copy.loans.add(loan.copy()));
            copy.acts.addAll(acts);
            copy.moves.addAll(moves);
            copy.promises.addAll(promises);
            copy.numbers.addAll(numbers);
            copy.scales = scales.clone();
            copy.prices = prices.clone();
            copy.texts = texts.clone();
            for (int i = 0; i < 4; i++) {
                copy.lives[i] = lives[i].clone();
                copy.chances[i] = chances[i].clone();
            }
            return copy;
        }
    }

    /** What differs from what is told, from a year on. */
    private static final class Other {
        int from = 40;
        int life = NONE;
        int plan = NONE;
        long sum;
        int[] states;
        int pence;
    }

    /** A loan's years, as they went. */
    private static final class Years {
        long[] owed = new long[40], taken = new long[40], struck = new long[40];
        long[] grown = new long[40];
        long paid;
    }

    private Told told = new Told();
    private final Told[] images = new Told[2];

    private static boolean year(int y) {
        return y >= 0 && y <= 39;
    }

    private static boolean in(long v, long least, long most) {
        return v >= least && v <= most;
    }

    private boolean isPerson(int p) {
        return p >= 0 && p < told.persons.size();
    }

    private boolean isLoan(int l) {
        return l >= 0 && l < told.loans.size();
    }

    int person(int began) {
        if (!year(began)) return BAD;
        if (told.persons.size() == 12) return FULL;
        Person person = new Person();
        person.began = began;
        told.persons.add(person);
        return told.persons.size() - 1;
    }

    int land(int person, int land, int from, int to) {
        if (!isPerson(person) || !in(land, 0, 3) || !year(from) || !year(to) || from > to) return BAD;
        for (int y = from; y <= to; y++) told.persons.get(person).lands[y] = land;
        return 1;
    }

    int scale(int land, int v) {
        if (!in(land, 0, 3) || !in(v, 1, 5000)) return BAD;
        int was = told.scales[land];
        told.scales[land] = v;
        return was;
    }

    int prices(int year, int v) {
        if (!year(year) || !in(v, -100, 500)) return -1000;
        int was = told.prices[year];
        told.prices[year] = v;
        return was;
    }

    int dies(int person, int year) {
        if (!isPerson(person) || !year(year)) return BAD;
        if (told.persons.get(person).died != NONE) return NO;
        told.persons.get(person).died = year;
        return 1;
    }

    int earn(int person, int year, int pence, int known) {
        if (!isPerson(person) || !year(year) || !in(pence, 0, 10000000) || !year(known)) return BAD;
        if (known < year) return BAD;
        if (told.persons.get(person).earnings.containsKey(year)) return NO;
        told.persons.get(person).earnings.put(year, new int[] {pence, known});
        return 1;
    }

    int right(int person, int year, int pence, int known) {
        if (!isPerson(person) || !year(year) || !in(pence, 0, 10000000) || !year(known)) return BAD;
        int[] first = told.persons.get(person).earnings.get(year);
        if (first != null && known < first[1]) return BAD;
        if (first == null || first.length == 4) return NO;
        told.persons.get(person).earnings.put(year, new int[] {first[0], first[1], pence, known});
        return 1;
    }

    int earnings(int person, int year, int k) {
        if (!isPerson(person) || !year(year) || !year(k)) return BAD;
        int[] e = told.persons.get(person).earnings.get(year);
        int pence = NONE;
        for (int i = 0; e != null && i < e.length; i += 2) {
            if (e[i + 1] <= k) pence = e[i];
        }
        return pence;
    }

    private static boolean number(int what, int v) {
        return in(what, 0, 5) && in(v, LEAST[what], MOST[what]);
    }

    int act(int plan, int what, int v, int from, int beganFrom, int beganTo) {
        if (!in(plan, 0, 4) || !number(what, v) || !year(from)) return BAD;
        if (!year(beganFrom) || !year(beganTo) || beganFrom > beganTo) return BAD;
        if (told.acts.size() == 60) return FULL;
        told.acts.add(new int[] {plan, what, v, from, beganFrom, beganTo});
        return told.acts.size() - 1;
    }

    int force(int plan, int what, int person, int year) {
        if (!in(plan, 0, 4) || !in(what, 0, 5) || !isPerson(person) || !year(year)) return BAD;
        int began = told.persons.get(person).began;
        int[] latest = null;
        for (int[] act : told.acts) {
            boolean counts = act[0] == plan && act[1] == what && act[3] <= year
                && act[4] <= began && began <= act[5];
            if (counts && (latest == null || act[3] >= latest[3])) latest = act;
        }
        return latest == null ? AT_FIRST[what] : latest[2];
    }

    int loan(int person, int plan, int year, int sum, boolean fee) {
        if (!isPerson(person) || !in(plan, 0, 4) || !year(year) || !in(sum, 1, 10000000)) return BAD;
        if (told.loans.size() == 30) return FULL;
        Loan loan = new Loan();
        loan.person = person;
        loan.plan = plan;
        loan.year = year;
        loan.sum = sum;
        loan.fee = fee;
        told.loans.add(loan);
        return told.loans.size() - 1;
    }

    private static long back(Loan loan) {
        if (loan.left == loan.year) return loan.sum * 750L / 1000;
        return loan.left == loan.year + 1 ? loan.sum * 500L / 1000 : 0;
    }

    int leave(int loan, int year) {
        if (!isLoan(loan) || !year(year)) return BAD;
        Loan l = told.loans.get(loan);
        if (!l.fee || year < l.year) return BAD;
        if (l.left != NONE) return NO;
        l.left = year;
        return (int) back(l);
    }

    int move(int loan, int plan, int year) {
        if (!isLoan(loan) || !in(plan, 0, 4) || !year(year)) return BAD;
        if (told.moves.size() == 60) return FULL;
        told.moves.add(new int[] {loan, plan, year});
        return 1;
    }

    int planOf(int loan, int year) {
        if (!isLoan(loan) || !year(year)) return BAD;
        for (int i = told.moves.size() - 1; i >= 0; i--) {
            int[] move = told.moves.get(i);
            if (move[0] == loan && move[2] <= year) return move[1];
        }
        return told.loans.get(loan).plan;
    }

    private int planOf(int loan, int y, Other other) {
        return other.plan != NONE && y >= other.from ? other.plan : planOf(loan, y);
    }

    private int earned(int person, int y, int k, Other other) {
        if (y < other.from) return earnings(person, y, k);
        if (other.life != NONE) return told.lives[other.life][y];
        int state = other.states[y - other.from];
        return state == 0 ? other.pence : state == 1 ? 0 : NONE;
    }

    private int landIn(int person, int y, Other other) {
        if (y < other.from) return told.persons.get(person).lands[y];
        return other.life == NONE && other.states[y - other.from] == 2 ? 1 : 0;
    }

    private boolean dead(int person, int y, Other other) {
        int died = told.persons.get(person).died;
        if (y < other.from) return died != NONE && died <= y;
        if (other.life != NONE) return died != NONE && died < other.from;
        return other.states[y - other.from] == 3;
    }

    private int rateIn(int loan, int y, int k, long owed, Other other) {
        int person = told.loans.get(loan).person;
        int plan = planOf(loan, y, other);
        int number = force(plan, 2, person, y);
        Reader reader = new Reader(told.texts[plan]);
        reader.letters.put('r', (long) number);
        reader.letters.put('p', (long) told.prices[y]);
        reader.letters.put('e', (long) earned(person, y, k, other));
        reader.letters.put('l', (long) force(plan, 0, person, y));
        reader.letters.put('y', (long) y - told.loans.get(loan).year);
        reader.letters.put('o', owed);
        reader.letters.put('a', (long) landIn(person, y, other));
        long v = reader.read();
        if (reader.fault != NONE) return number;
        return v < 0 ? 0 : v > 500 ? 500 : (int) v;
    }

    /** Runs all forty years (or till the states end) of a person's loans. */
    private Years[] run(int person, int k, Other other) {
        int n = told.loans.size();
        Years[] run = new Years[n];
        for (int l = 0; l < n; l++) run[l] = new Years();
        int end = other.states == null ? 40 : other.from + other.states.length;
        for (int y = 0; y < end; y++) {
            List<Integer> order = new ArrayList<>();
            long[] owed = new long[n];
            for (int l = 0; l < n; l++) {
                Loan loan = told.loans.get(l);
                if (loan.person != person) continue;
                owed[l] = y == 0 ? 0 : run[l].owed[y - 1];
                int plan = planOf(l, y, other);
                if (dead(person, y, other) || y - loan.year >= force(plan, 3, person, y)) {
                    run[l].struck[y] = owed[l];
                    owed[l] = 0;
                    continue;
                }
                long grown = owed[l] * rateIn(l, y, k, owed[l], other) / 1000;
                run[l].grown[y] = Math.min(grown, 1000000000000L - owed[l]);
                owed[l] += run[l].grown[y];
                if (loan.year == y) owed[l] += loan.sum;
                if (loan.left == y) owed[l] -= Math.min(owed[l], back(loan));
                order.add(l);
            }
            int now = y;
            order.sort(Comparator.comparingInt(
                (Integer l) -> force(planOf(l, now, other), 4, person, now)).thenComparingInt(l -> l));
            if (y == other.from && other.sum > 0) {
                long left = other.sum;
                for (int l : order) {
                    long paid = Math.min(left, owed[l]);
                    left -= paid;
                    owed[l] -= paid;
                    run[l].paid = paid;
                }
            }
            int e = earned(person, y, k, other);
            int land = landIn(person, y, other);
            long ahead = 0;
            for (int l : order) {
                int plan = planOf(l, y, other);
                long line = force(plan, 0, person, y);
                if (land != 0) line = line * told.scales[land] / 1000;
                long due;
                if (e == NONE) due = land == 0 ? 0 : force(plan, 5, person, y);
                else due = e > line ? (e - line) * force(plan, 1, person, y) / 1000 : 0;
                long taken = Math.min(Math.max(due - ahead, 0), owed[l]);
                run[l].taken[y] = taken;
                owed[l] -= taken;
                ahead += taken;
            }
            for (int l = 0; l < n; l++) run[l].owed[y] = owed[l];
        }
        return run;
    }

    private static long what(Years years, int year, int what) {
        switch (what) {
            case 0: return years.owed[year];
            case 1: return years.taken[year];
            case 2: return years.struck[year];
            case 4: return years.grown[year];
            default: return Arrays.stream(years.taken, 0, year + 1).sum();
        }
    }

    long owes(int loan, int year, int k, int what) {
        if (!isLoan(loan) || !year(year) || !year(k) || !in(what, 0, 4)) return BAD;
        return what(run(told.loans.get(loan).person, k, new Other())[loan], year, what);
    }

    long all(int person, int year, int k, int what) {
        if (!isPerson(person) || !year(year) || !year(k) || !in(what, 0, 4)) return BAD;
        long sum = 0;
        for (Years years : run(person, k, new Other())) sum += what(years, year, what);
        return sum;
    }

    int rate(int loan, int year, int k) {
        if (!isLoan(loan) || !year(year) || !year(k)) return BAD;
        long owed = year == 0 ? 0 : owes(loan, year - 1, k, 0);
        return rateIn(loan, year, k, owed, new Other());
    }

    long over(int person, int year, int k) {
        if (!isPerson(person) || !year(year) || !year(k)) return -1000000000000000L;
        return all(person, year, year, 1) - all(person, year, k, 1);
    }

    int write(int plan, int character) {
        if (!in(plan, 0, 4) || !in(character, 0, 127)) return BAD;
        if (told.texts[plan].length() == 50) return FULL;
        told.texts[plan] += (char) character;
        return told.texts[plan].length();
    }

    int erase(int plan) {
        if (!in(plan, 0, 4)) return BAD;
        int n = told.texts[plan].length();
        told.texts[plan] = "";
        return n;
    }

    int fault(int plan) {
        if (!in(plan, 0, 4)) return BAD;
        Reader reader = new Reader(told.texts[plan]);
        reader.read();
        return reader.fault;
    }

    int sell(int loan, int book, int year) {
        if (!isLoan(loan) || !in(book, 0, 3) || !year(year)) return BAD;
        Loan l = told.loans.get(loan);
        if (l.book != NONE) return NO;
        l.book = book;
        l.from = year;
        return 1;
    }

    int promise(int book, int year, int pence) {
        if (!in(book, 0, 3) || !year(year) || !in(pence, 1, 1000000000)) return BAD;
        if (told.promises.size() == 20) return FULL;
        told.promises.add(new int[] {book, year, pence});
        return told.promises.size();
    }

    long book(int book, int year, int k, int what) {
        if (!in(book, 0, 3) || !year(year) || !year(k) || !in(what, 0, 1)) return BAD;
        long has = 0;
        for (int l = 0; l < told.loans.size(); l++) {
            Loan loan = told.loans.get(l);
            if (loan.book != book) continue;
            Years years = run(loan.person, k, new Other())[l];
            for (int y = loan.from; y <= year; y++) has += years.taken[y];
        }
        if (what == 0) return has;
        long promised = 0;
        for (int[] p : told.promises) if (p[0] == book && p[1] <= year) promised += p[2];
        return Math.max(promised - has, 0);
    }

    int live(int life, int from, int to, int pence) {
        if (!in(life, 0, 3) || !year(from) || !year(to) || from > to || !in(pence, 0, 10000000)) return BAD;
        for (int y = from; y <= to; y++) told.lives[life][y] = pence;
        return 1;
    }

    private long takenFrom(Years[] run, int y) {
        long sum = 0;
        for (Years years : run) for (int i = y; i < 40; i++) sum += years.taken[i];
        return sum;
    }

    int early(int person, int sum, int y, int k) {
        if (!isPerson(person) || !in(sum, 1, 1000000000) || !year(y) || !year(k)) return BAD;
        int bits = 0;
        for (int life = 0; life < 4; life++) {
            Other other = new Other();
            other.from = y;
            other.life = life;
            long without = takenFrom(run(person, k, other), y);
            other.sum = sum;
            Years[] run = run(person, k, other);
            long with = takenFrom(run, y);
            for (Years years : run) with += years.paid;
            if (with < without) bits += 1 << life;
        }
        return bits;
    }

    long choice(int person, int plan, int life, int y, int k) {
        if (!isPerson(person) || !in(plan, -1, 4) || !in(life, 0, 3) || !year(y) || !year(k)) return BAD;
        Other other = new Other();
        other.from = y;
        other.life = life;
        other.plan = plan;
        return takenFrom(run(person, k, other), y);
    }

    int chances(int state, int work, int gap, int abroad, int dead) {
        if (!in(state, 0, 2) || !in(work, 0, 10) || !in(gap, 0, 10)) return BAD;
        if (!in(abroad, 0, 10) || !in(dead, 0, 10) || work + gap + abroad + dead != 10) return BAD;
        told.chances[state] = new int[] {work, gap, abroad, dead};
        return 1;
    }

    long foretold(int person, int state, int pence, int y, int n, int what) {
        if (!isPerson(person) || !in(state, 0, 3) || !in(pence, 0, 10000000) || !year(y)) return BAD;
        if (!in(n, 1, 5) || y + n > 40 || !in(what, 0, 3)) return BAD;
        long mean = 0, least = Long.MAX_VALUE, greatest = Long.MIN_VALUE, never = 0;
        for (int way = 0; way < 1 << 2 * (n - 1); way++) {
            int[] states = new int[n];
            states[0] = state;
            long chance = 1;
            for (int i = 1; i < n; i++) {
                states[i] = way >> 2 * (i - 1) & 3;
                chance *= told.chances[states[i - 1]][states[i]];
            }
            if (chance == 0) continue;
            Other other = new Other();
            other.from = y;
            other.states = states;
            other.pence = pence;
            long taken = 0, lost = 0;
            for (Years years : run(person, 39, other)) {
                for (int i = y; i < y + n; i++) {
                    taken += years.taken[i];
                    lost += years.struck[i];
                }
                lost += years.owed[y + n - 1];
            }
            mean += chance * taken;
            never += chance * lost;
            least = Math.min(least, taken);
            greatest = Math.max(greatest, taken);
        }
        return what == 0 ? mean : what == 1 ? least : what == 2 ? greatest : never;
    }

    long tried(int plan, int what, int v, int from, int year) {
        if (!in(plan, 0, 4) || !number(what, v) || !year(from) || !year(year)) return BAD;
        told.acts.add(new int[] {plan, what, v, from, 0, 39});
        long sum = 0;
        for (int p = 0; p < told.persons.size(); p++) sum += all(p, year, 39, 1);
        told.acts.remove(told.acts.size() - 1);
        return sum;
    }

    int tell(int v) {
        if (!in(v, 0, 10000000)) return BAD;
        if (told.numbers.size() == 9) return FULL;
        told.numbers.add(v);
        return told.numbers.size();
    }

    int untell() {
        int n = told.numbers.size();
        told.numbers.clear();
        return n;
    }

    int best(int plan, int what, int from, int year, int person, long asked) {
        if (!in(plan, 0, 4) || !in(what, 0, 5) || !year(from) || !year(year) || !isPerson(person)) return BAD;
        int now = force(plan, what, person, year);
        List<Integer> good = new ArrayList<>();
        for (int v : told.numbers) {
            if (number(what, v) && tried(plan, what, v, from, year) >= asked) good.add(v);
        }
        good.sort(Comparator.comparingInt((Integer v) -> Math.abs(v - now)).thenComparingInt(v -> v));
        return good.isEmpty() ? NONE : good.get(0);
    }

    int image(int i) {
        if (!in(i, 0, 1)) return BAD;
        images[i] = told.copy();
        return 1;
    }

    int from(int i) {
        if (!in(i, 0, 1)) return BAD;
        if (images[i] == null) return NO;
        told = images[i].copy();
        return 1;
    }

    int count(int what) {
        if (!in(what, 0, 5)) return BAD;
        return List.of(told.persons, told.loans, told.acts, told.moves, told.promises, told.numbers)
            .get(what).size();
    }

    long digest() {
        List<Long> v = new ArrayList<>();
        for (int what = 0; what < 6; what++) v.add((long) count(what));
        for (Person person : told.persons) {
            v.add((long) person.began);
            v.add((long) person.died);
            for (int land : person.lands) v.add((long) land);
        }
        for (Loan l : told.loans) {
            int[] row = {l.person, l.plan, l.year, l.sum, l.fee ? 1 : 0, l.left, l.book, l.from};
            for (int n : row) v.add((long) n);
        }
        for (int[] act : told.acts) for (int n : act) v.add((long) n);
        for (int[] move : told.moves) for (int n : move) v.add((long) n);
        for (String text : told.texts) {
            v.add((long) text.length());
            for (char c : text.toCharArray()) v.add((long) c);
        }
        for (int l = 0; l < told.loans.size(); l++) {
            v.add(owes(l, 39, 39, 0));
            v.add(owes(l, 39, 39, 3));
        }
        long h = 347;
        for (long n : v) h = 31 * h + n;
        return h;
    }

    /** Works a text while it reads it; a fault ends the reading at once. */
    private static final class Reader {
        final TreeMap<Character, Long> letters = new TreeMap<>();
        int fault = NONE;
        private final String text;
        private int at;
        private int open;

        private static final class Stop extends RuntimeException {
            private static final long serialVersionUID = 1;
        }

        Reader(String text) {
            this.text = text;
            for (char c : "rpelyoa".toCharArray()) letters.put(c, 0L);
        }

        long read() {
            try {
                long v = value();
                if (peek() != 0xffff) throw stop(at, 1);
                return v;
            } catch (Stop stop) {
                return 0;
            }
        }

        private Stop stop(int place, int kind) {
            fault = 10 * place + kind;
            return new Stop();
        }

        private char peek() {
            while (at < text.length() && text.charAt(at) == ' ') at++;
            return at < text.length() ? text.charAt(at) : (char) 0xffff;
        }

        private boolean got(char c) {
            if (peek() != c) return false;
            at++;
            return true;
        }

        private long value() {
            long v = either();
            if (!got('?')) return v;
            long yes = value();
            if (!got(':')) throw stop(at, 1);
            long no = value();
            return v != 0 ? yes : no;
        }

        private long either() {
            long v = both();
            while (got('|')) {
                long w = both();
                v = v != 0 || w != 0 ? 1 : 0;
            }
            return v;
        }

        private long both() {
            long v = held();
            while (got('&')) {
                long w = held();
                v = v != 0 && w != 0 ? 1 : 0;
            }
            return v;
        }

        private long held() {
            long v = sum();
            if (got('<')) return v < sum() ? 1 : 0;
            if (got('>')) return v > sum() ? 1 : 0;
            if (got('=')) return v == sum() ? 1 : 0;
            return v;
        }

        private long sum() {
            long v = term();
            while (true) {
                if (got('+')) v += term();
                else if (got('-')) v -= term();
                else return v;
            }
        }

        private long term() {
            long v = unit();
            while (true) {
                if (got('*')) {
                    v *= unit();
                } else if (got('/')) {
                    long by = unit();
                    v = by == 0 ? 0 : v / by;
                } else {
                    return v;
                }
            }
        }

        private long unit() {
            char c = peek();
            if (c >= '0' && c <= '9') {
                int first = at;
                long v = 0;
                while (at < text.length() && text.charAt(at) >= '0' && text.charAt(at) <= '9') {
                    if (at - first == 6) throw stop(first, 2);
                    v = 10 * v + text.charAt(at) - '0';
                    at++;
                }
                return v;
            }
            if (letters.containsKey(c)) {
                at++;
                return letters.get(c);
            }
            if (c == '(' && open == 8) throw stop(at, 3);
            if (got('(')) {
                open++;
                long v = value();
                if (!got(')')) throw stop(at, 1);
                open--;
                return v;
            }
            if (got('!')) return unit() == 0 ? 1 : 0;
            if (got('-')) return -unit();
            throw stop(at, 1);
        }
    }
}
