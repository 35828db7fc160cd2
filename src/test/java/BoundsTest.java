/**
 * Of every number of every call the least and the greatest that is as told and those just outside:
 * in a house with room, in one where nothing more fits and nothing can be told again, and that a
 * refused call changes nothing in either.
 */
public final class BoundsTest {
    private static final int NONE = -1, BAD = -2, NO = -3, FULL = -4;
    private static final long NO_PRICES = -1000, NO_OVER = -1000000000000000L;
    private static final int LEAST_INT = -2147483648, MOST_INT = 2147483647;
    private static final long ROOMY = Scene.whole(Scene.roomy()), FULL_UP = Scene.whole(Scene.full());
    private static final Due due = new Due();

    private interface Call {
        long on(LearnLoans x, int[] a);
    }

    /** A call with numbers that are as told, and what it answers to a number that is not. */
    private static final class Asked {
        private final String name;
        private final Call call;
        private final long bad;
        private final int[] plain;

        Asked(String name, Call call, long bad, int... plain) {
            this.name = name;
            this.call = call;
            this.bad = bad;
            this.plain = plain;
        }

        /** The number at a place may go from the least to the most. */
        Asked within(int place, int least, int most) {
            taken(place, least);
            taken(place, most);
            outside(place, least, most);
            return this;
        }

        /** The number at a place is one of those that came, as many as there are in each house. */
        Asked among(int place, int inRoomy, int inFull) {
            taken(place, 0);
            taken(place, inRoomy - 1);
            refusedInRoomy(with(place, inRoomy));
            refusedInFull(with(place, inFull));
            outside(place, 0, MOST_INT - 1);
            return this;
        }

        private void outside(int place, int least, int most) {
            refused(with(place, least - 1));
            refused(with(place, most + 1));
            refused(with(place, LEAST_INT));
            refused(with(place, MOST_INT));
        }

        private int[] with(int place, int v) {
            int[] a = plain.clone();
            a[place] = v;
            return a;
        }

        private void taken(int place, int v) {
            accepted(with(place, v));
        }

        Asked accepted(int... a) {
            long got = call.on(Scene.roomy(), a);
            due.holds(told(a) + " is as told, answered " + got, got != bad && got != NO && got != FULL);
            return this;
        }

        Asked refused(int... a) {
            refusedInRoomy(a);
            refusedInFull(a);
            return this;
        }

        private void refusedInRoomy(int[] a) {
            unchanged(Scene.roomy(), a, bad, ROOMY, " in a roomy house");
        }

        private void refusedInFull(int[] a) {
            unchanged(Scene.full(), a, bad, FULL_UP, " in a full house");
        }

        private void unchanged(LearnLoans x, int[] a, long want, long whole, String where) {
            due.is(told(a) + where, call.on(x, a), want);
            due.is(told(a) + where + " changes nothing: all", Scene.whole(x), whole);
        }

        /** The plain numbers answer this in a house with room. */
        Asked answers(long want) {
            due.is(told(plain), call.on(Scene.roomy(), plain), want);
            return this;
        }

        /** The plain numbers are as told, but refused with this in a full house, or in a roomy one. */
        Asked refusedFullWith(long want) {
            unchanged(Scene.full(), plain, want, FULL_UP, " in a full house");
            return this;
        }

        Asked refusedRoomyWith(long want, int... a) {
            unchanged(Scene.roomy(), a, want, ROOMY, " in a roomy house");
            return this;
        }

        /** A call that only asks changes nothing either. */
        Asked onlyAsks() {
            LearnLoans x = Scene.roomy();
            call.on(x, plain);
            due.is(told(plain) + " only asks: all", Scene.whole(x), ROOMY);
            LearnLoans y = Scene.full();
            call.on(y, plain);
            due.is(told(plain) + " only asks in a full house: all", Scene.whole(y), FULL_UP);
            return this;
        }

        /** A call that is not refused changes what is told: else nothing here would show that one did. */
        Asked changes() {
            LearnLoans x = Scene.roomy();
            call.on(x, plain);
            due.holds(told(plain) + " changes something", Scene.whole(x) != ROOMY);
            return this;
        }

        private String told(int[] a) {
            StringBuilder text = new StringBuilder(name).append('(');
            for (int i = 0; i < a.length; i++) {
                text.append(i == 0 ? "" : ", ").append(a[i]);
            }
            return text.append(')').toString();
        }
    }

    private static Asked asked(String name, Call call, int... plain) {
        return new Asked(name, call, BAD, plain);
    }

    public static void main(String[] args) {
        due.is("the same house twice", Scene.whole(Scene.roomy()), ROOMY);
        due.is("the same full house twice", Scene.whole(Scene.full()), FULL_UP);
        persons();
        earnings();
        plans();
        loans();
        runs();
        texts();
        books();
        lives();
        chances();
        others();
        images();
        due.end("BoundsTest");
    }

    private static void persons() {
        asked("2 person", (x, a) -> x.person(a[0]), 7)
            .answers(2).changes().within(0, 0, 39).refusedFullWith(FULL);
        asked("3 land", (x, a) -> x.land(a[0], a[1], a[2], a[3]), 0, 1, 5, 5)
            .answers(1).changes().among(0, 2, 12).within(1, 0, 3)
            .refused(0, 1, 6, 5).refused(0, 1, 39, 0).refused(0, 1, -1, 5).refused(0, 1, 5, 40)
            .refused(0, 1, LEAST_INT, 5).refused(0, 1, 5, MOST_INT).refused(0, 1, -2, -1).refused(0, 1, 40, 41)
            .accepted(0, 1, 0, 39).accepted(0, 1, 0, 0).accepted(0, 1, 39, 39);
        asked("4 scale", (x, a) -> x.scale(a[0], a[1]), 2, 900)
            .answers(700).changes().within(0, 0, 3).within(1, 1, 5000);
        new Asked("5 prices", (x, a) -> x.prices(a[0], a[1]), NO_PRICES, 5, 300)
            .answers(40).changes().within(0, 0, 39).within(1, -100, 500);
        asked("6 dies", (x, a) -> x.dies(a[0], a[1]), 0, 20)
            .answers(1).changes().among(0, 2, 12).within(1, 0, 39).refusedFullWith(NO);
    }

    private static void earnings() {
        asked("7 earn", (x, a) -> x.earn(a[0], a[1], a[2], a[3]), 0, 5, 60000, 11)
            .refusedFullWith(NO).refusedRoomyWith(NO, 0, 5, 60000, 11);
        asked("7 earn", (x, a) -> x.earn(a[0], a[1], a[2], a[3]), 0, 6, 60000, 11).among(0, 2, 12);
        asked("7 earn", (x, a) -> x.earn(a[0], a[1], a[2], a[3]), 1, 5, 60000, 11)
            .answers(1).changes().within(2, 0, 10000000).within(3, 5, 39)
            .accepted(1, 0, 5, 0).accepted(1, 0, 5, 39).accepted(1, 39, 5, 39)
            .refused(1, -1, 5, 11).refused(1, -1, 5, -1).refused(1, 40, 5, 39).refused(1, 40, 5, 40)
            .refused(1, 12, 5, 11).refused(1, 39, 5, 38).refused(1, MOST_INT, 5, 39)
            .refused(1, LEAST_INT, 5, 39);
        asked("8 right", (x, a) -> x.right(a[0], a[1], a[2], a[3]), 0, 5, 90000, 15)
            .answers(1).changes().refusedFullWith(NO)
            .within(2, 0, 10000000).within(3, 10, 39)
            .accepted(0, 0, 5, 0).accepted(0, 0, 5, 39).accepted(0, 39, 5, 39)
            .refused(0, 39, 5, 38).refused(0, -1, 5, 39).refused(0, 40, 5, 39).refused(0, MOST_INT, 5, 39)
            .refused(0, LEAST_INT, 5, 39).refused(-1, 5, 5, 39).refused(12, 5, 5, 39)
            .refused(MOST_INT, 5, 5, 39).refused(LEAST_INT, 5, 5, 39)
            .refusedRoomyWith(NO, 1, 5, 90000, 15).refusedRoomyWith(NO, 0, 6, 90000, 15)
            .refusedRoomyWith(BAD, 2, 5, 90000, 15);
        asked("9 earnings", (x, a) -> x.earnings(a[0], a[1], a[2]), 0, 5, 11)
            .answers(70000).onlyAsks().among(0, 2, 12).within(1, 0, 39).within(2, 0, 39);
    }

    private static void plans() {
        Asked act = asked("10 act", (x, a) -> x.act(a[0], a[1], a[2], a[3], a[4], a[5]), 0, 1, 5, 6, 2, 9)
            .answers(5).changes().refusedFullWith(FULL)
            .within(0, 0, 4).within(1, 0, 5).within(3, 0, 39).within(4, 0, 9).within(5, 2, 39)
            .accepted(0, 1, 5, 6, 0, 0).accepted(0, 1, 5, 6, 39, 39).accepted(0, 1, 5, 6, 0, 39)
            .refused(0, 1, 5, 6, -1, -1).refused(0, 1, 5, 6, 40, 40).refused(0, 1, 5, 6, 39, 0);
        numbersOf(act);
        asked("11 force", (x, a) -> x.force(a[0], a[1], a[2], a[3]), 0, 1, 0, 5)
            .answers(500).onlyAsks().within(0, 0, 4).within(1, 0, 5).among(2, 2, 12).within(3, 0, 39);
    }

    /** What is told at place 1 bounds what is told at place 2. */
    private static void numbersOf(Asked asked) {
        int[] least = {0, 0, 0, 1, 0, 0};
        int[] most = {10000000, 1000, 500, 60, 9, 1000000};
        for (int what = 0; what < 6; what++) {
            int[] a = asked.plain.clone();
            a[1] = what;
            new Asked(asked.name, asked.call, asked.bad, a).within(2, least[what], most[what]);
        }
    }

    private static void loans() {
        asked("12 loan", (x, a) -> x.loan(a[0], a[1], a[2], a[3], a[4] == 1), 0, 0, 5, 4000, 1)
            .answers(3).changes().refusedFullWith(FULL)
            .among(0, 2, 12).within(1, 0, 4).within(2, 0, 39).within(3, 1, 10000000);
        asked("13 leave", (x, a) -> x.leave(a[0], a[1]), 2, 3)
            .answers(15000).changes().within(1, 2, 39).accepted(1, 5).refusedRoomyWith(BAD, 1, 4)
            .refusedRoomyWith(BAD, 0, 5).refusedRoomyWith(BAD, 3, 5)
            .refused(-1, 5).refused(30, 5).refused(MOST_INT, 5).refused(LEAST_INT, 5);
        asked("13 leave", (x, a) -> x.leave(a[0], a[1]), 0, 5)
            .refusedFullWith(NO).refused(0, 1).refused(0, 40).refused(0, -1);
        asked("14 move", (x, a) -> x.move(a[0], a[1], a[2]), 0, 3, 5)
            .answers(1).changes().refusedFullWith(FULL)
            .among(0, 3, 30).within(1, 0, 4).within(2, 0, 39);
        asked("15 planOf", (x, a) -> x.planOf(a[0], a[1]), 1, 20)
            .answers(2).onlyAsks().among(0, 3, 30).within(1, 0, 39);
    }

    private static void runs() {
        asked("16 owes", (x, a) -> x.owes(a[0], a[1], a[2], a[3]), 0, 5, 10, 1)
            .answers(30000).onlyAsks().among(0, 3, 30).within(1, 0, 39).within(2, 0, 39).within(3, 0, 4);
        asked("17 all", (x, a) -> x.all(a[0], a[1], a[2], a[3]), 0, 5, 10, 1)
            .answers(30000).onlyAsks().among(0, 2, 12).within(1, 0, 39).within(2, 0, 39).within(3, 0, 4);
        asked("18 rate", (x, a) -> x.rate(a[0], a[1], a[2]), 0, 5, 10)
            .answers(50).onlyAsks().among(0, 3, 30).within(1, 0, 39).within(2, 0, 39);
        new Asked("19 over", (x, a) -> x.over(a[0], a[1], a[2]), NO_OVER, 0, 5, 10)
            .answers(-30000).onlyAsks().among(0, 2, 12).within(1, 0, 39).within(2, 0, 39);
    }

    private static void texts() {
        asked("20 write", (x, a) -> x.write(a[0], a[1]), 0, '0')
            .answers(4).changes().refusedFullWith(FULL).within(0, 0, 4).within(1, 0, 127);
        asked("21 erase", (x, a) -> x.erase(a[0]), 1).answers(2).changes().within(0, 0, 4);
        asked("22 fault", (x, a) -> x.fault(a[0]), 2).answers(1).onlyAsks().within(0, 0, 4);
    }

    private static void books() {
        asked("23 sell", (x, a) -> x.sell(a[0], a[1], a[2]), 0, 3, 5)
            .answers(1).changes().refusedFullWith(NO)
            .among(0, 3, 30).within(1, 0, 3).within(2, 0, 39);
        asked("24 promise", (x, a) -> x.promise(a[0], a[1], a[2]), 2, 5, 900000)
            .answers(2).changes().refusedFullWith(FULL)
            .within(0, 0, 3).within(1, 0, 39).within(2, 1, 1000000000);
        asked("25 book", (x, a) -> x.book(a[0], a[1], a[2], a[3]), 1, 5, 10, 1)
            .answers(300000).onlyAsks().within(0, 0, 3).within(1, 0, 39).within(2, 0, 39).within(3, 0, 1);
    }

    private static void lives() {
        asked("26 live", (x, a) -> x.live(a[0], a[1], a[2], a[3]), 1, 5, 5, 90000)
            .answers(1).changes().within(0, 0, 3).within(1, 0, 5).within(2, 5, 39).within(3, 0, 10000000)
            .accepted(1, 0, 39, 1).accepted(1, 0, 0, 1).accepted(1, 39, 39, 1)
            .refused(1, 39, 0, 1).refused(1, 40, 40, 1).refused(1, -1, -1, 1);
        asked("27 early", (x, a) -> x.early(a[0], a[1], a[2], a[3]), 0, 500, 5, 10)
            .answers(0).onlyAsks().among(0, 2, 12).within(1, 1, 1000000000).within(2, 0, 39).within(3, 0, 39);
        asked("28 choice", (x, a) -> x.choice(a[0], a[1], a[2], a[3], a[4]), 0, NONE, 1, 39, 10)
            .answers(5500).onlyAsks().among(0, 2, 12).within(1, NONE, 4).within(2, 0, 3).within(3, 0, 39)
            .within(4, 0, 39);
    }

    private static void chances() {
        asked("29 chances", (x, a) -> x.chances(a[0], a[1], a[2], a[3], a[4]), 0, 1, 2, 3, 4)
            .answers(1).changes().within(0, 0, 2)
            .accepted(0, 10, 0, 0, 0).accepted(0, 0, 10, 0, 0).accepted(0, 0, 0, 10, 0).accepted(0, 0, 0, 0, 10)
            .refused(0, 11, 0, 0, 0).refused(0, 9, 0, 0, 0).refused(0, 0, 0, 0, 0).refused(0, 0, 0, 0, 11)
            .refused(0, 2, 2, 3, 4).refused(0, 0, 2, 3, 4).refused(0, 1, 2, 3, 5).refused(0, 1, 2, 3, 3)
            .refused(0, -1, 11, 0, 0).refused(0, 11, -1, 0, 0).refused(0, 0, 11, -1, 0).refused(0, 0, 0, 11, -1)
            .refused(0, -1, 4, 3, 4).refused(0, 4, -1, 3, 4).refused(0, 4, 3, -1, 4).refused(0, 4, 3, 4, -1)
            .refused(0, MOST_INT, MOST_INT, 6, 6).refused(0, LEAST_INT, LEAST_INT, 5, 5)
            .refused(0, MOST_INT, LEAST_INT, 5, 6).refused(0, 11, 0, 0, LEAST_INT);
        asked("30 foretold", (x, a) -> x.foretold(a[0], a[1], a[2], a[3], a[4], a[5]), 0, 0, 30000, 5, 1, 0)
            .answers(10000).onlyAsks().among(0, 2, 12).within(1, 0, 3).within(2, 0, 10000000)
            .within(3, 0, 39).within(4, 1, 5).within(5, 0, 3)
            .accepted(0, 0, 0, 35, 5, 0).accepted(0, 0, 0, 38, 2, 0)
            .refused(0, 0, 0, 36, 5, 0).refused(0, 0, 0, 39, 2, 0).refused(0, 0, 0, 40, 1, 0)
            .refused(0, 0, 0, -1, 5, 0).refused(0, 0, 0, MOST_INT, 5, 0).refused(0, 0, 0, 39, MOST_INT, 0);
    }

    private static void others() {
        Asked tried = asked("31 tried", (x, a) -> x.tried(a[0], a[1], a[2], a[3], a[4]), 0, 1, 5, 5, 5)
            .answers(3300).onlyAsks().within(0, 0, 4).within(1, 0, 5).within(3, 0, 39).within(4, 0, 39);
        numbersOf(tried);
        asked("32 tell", (x, a) -> x.tell(a[0]), 9)
            .answers(3).changes().refusedFullWith(FULL).within(0, 0, 10000000);
        asked("33 untell", (x, a) -> x.untell()).answers(2).changes();
        asked("34 best", (x, a) -> x.best(a[0], a[1], a[2], a[3], a[4], a[5]), 0, 0, 5, 5, 0, 29000)
            .answers(12000).onlyAsks().within(0, 0, 4).within(1, 0, 5).within(2, 0, 39).within(3, 0, 39)
            .among(4, 2, 12).accepted(0, 0, 5, 5, 0, LEAST_INT).accepted(0, 0, 5, 5, 0, MOST_INT);
    }

    private static void images() {
        asked("35 image", (x, a) -> x.image(a[0]), 0).answers(1).changes().within(0, 0, 1);
        asked("36 from", (x, a) -> x.from(a[0]), 0).answers(1).changes()
            .refused(-1).refused(2).refused(MOST_INT).refused(LEAST_INT).refusedRoomyWith(NO, 1);
        asked("37 count", (x, a) -> x.count(a[0]), 0).answers(2).onlyAsks().within(0, 0, 5);
        asked("38 digest", (x, a) -> x.digest()).onlyAsks();
    }
}
