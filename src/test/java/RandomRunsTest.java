/** Runs of calls drawn by a fixed rule, answered by the class as by the model of the document. */
public final class RandomRunsTest {
    private static final int RUNS = 200, CALLS = 512;
    /** More of a drawn text is not written: the last ten are refused already. */
    private static final int MOST_SIGNS = 60;
    /** So many calls are left for the longest step and for the digest behind all. */
    private static final int LONGEST = MOST_SIGNS + 3;
    private static final int[] BOUNDS = {-1, 0, 1, 39, 40, 1000, 10000000, 10000001, 2147483647, -2147483648};
    private static final int[] MOST = {10000000, 1000, 500, 60, 9, 1000000};

    private long seed;
    private LearnLoans mine;
    private Model model;
    private String call;
    private int calls;
    private long got;
    private long want;

    public static void main(String[] args) {
        Due due = new Due();
        int runs = args.length > 0 ? Integer.parseInt(args[0]) : RUNS;
        int first = args.length > 1 ? Integer.parseInt(args[1]) : 1;
        for (int run = first; run < first + runs; run++) {
            new RandomRunsTest(run).compare(due, run);
        }
        due.end("RandomRunsTest");
    }

    private RandomRunsTest(int run) {
        seed = run * 7919L + 17;
        mine = new LearnLoans();
        model = new Model();
    }

    private void compare(Due due, int run) {
        int wild = run % 4 == 0 ? 20 : 3;
        for (int i = 0; calls < CALLS - LONGEST; i++) {
            if (draw(100) < wild) {
                ask(draw(38), true);
            } else if (draw(100) < (i < 150 ? 92 : 55)) {
                tellSomething();
            } else {
                ask(20 + draw(18), false);
            }
            due.is("run " + run + ", call " + i + ": " + call, got, want);
            if (got != want) {
                return;
            }
        }
        due.is("run " + run + ": digest", mine.digest(), model.digest());
    }

    private int draw(int n) {
        seed = seed * 6364136223846793005L + 1442695040888963407L;
        return (int) ((seed >>> 33) % n);
    }

    private int year() {
        int kind = draw(10);
        return kind < 5 ? draw(8) : kind < 9 ? draw(40) : 39;
    }

    private int persons() {
        return draw(Math.max(1, model.count(0)));
    }

    private int loans() {
        return draw(Math.max(1, model.count(1)));
    }

    private int pence() {
        int kind = draw(6);
        return kind == 0 ? 0 : kind == 1 ? draw(10000001) : kind == 2 ? 10000000 : draw(200000);
    }

    private int number(int what) {
        int kind = draw(8);
        if (what == 0) {
            return kind < 5 ? draw(60000) : draw(10000001);
        }
        if (what == 2) {
            return kind == 0 ? 500 : draw(kind < 4 ? 501 : 80);
        }
        if (what == 3) {
            return kind == 0 ? 60 : 1 + draw(kind < 4 ? 60 : 12);
        }
        return kind == 0 ? MOST[what] : draw(kind < 3 ? MOST[what] + 1 : Math.min(MOST[what] + 1, 600));
    }

    private int any(boolean wild, int plain) {
        if (!wild) {
            return plain;
        }
        int kind = draw(4);
        return kind == 0 ? BOUNDS[draw(BOUNDS.length)] : kind == 1 ? draw(12) - 2 : plain;
    }

    /** Of what is told, that most often which later answers need. */
    private void tellSomething() {
        int[] often = {0, 1, 6, 6, 7, 8, 9, 9, 9, 10, 10, 10, 11, 12, 13, 13, 14, 14, 14, 14, 15, 16, 2, 3, 4, 5, 17, 18, 19};
        int kind = often[draw(often.length)];
        if (kind == 14 && draw(3) == 0) {
            writeText();
        } else if (kind == 15 && draw(3) > 0) {
            ask(14, false);
        } else {
            ask(kind, false);
        }
    }

    private void put(String call, long got, long want) {
        this.call = call;
        calls++;
        this.got = got;
        this.want = want;
    }

    private void ask(int kind, boolean wild) {
        int p = any(wild, persons());
        int l = any(wild, loans());
        int plan = any(wild, draw(5));
        int y = any(wild, year());
        int z = any(wild, year());
        if (kind < 14) {
            tell(kind, wild, p, l, plan, y, z);
        } else if (kind < 26) {
            tellMore(kind, wild, p, l, plan, y, z);
        } else {
            ask(kind, wild, p, l, plan, y, z);
        }
    }

    private void tell(int kind, boolean wild, int p, int l, int plan, int y, int z) {
        int low = wild ? y : Math.min(y, z);
        int high = wild ? z : Math.max(y, z);
        int pence = any(wild, pence());
        int a = any(wild, draw(4));
        int sum = any(wild, 1 + pence());
        switch (kind) {
            case 0: put("person(" + y + ")", mine.person(y), model.person(y)); break;
            case 1:
            case 2:
                put("land(" + p + ", " + a + ", " + low + ", " + high + ")",
                    mine.land(p, a, low, high), model.land(p, a, low, high));
                break;
            case 3:
                int v = any(wild, draw(3) == 0 ? 1 + draw(5000) : 400 + draw(1200));
                put("scale(" + a + ", " + v + ")", mine.scale(a, v), model.scale(a, v));
                break;
            case 4:
                v = any(wild, draw(601) - 100);
                put("prices(" + y + ", " + v + ")", mine.prices(y, v), model.prices(y, v));
                break;
            case 5:
                int late = wild || draw(3) == 0 ? y : Math.min(39, 20 + y);
                put("dies(" + p + ", " + late + ")", mine.dies(p, late), model.dies(p, late));
                break;
            case 6:
            case 7:
                put("earn(" + p + ", " + low + ", " + pence + ", " + high + ")",
                    mine.earn(p, low, pence, high), model.earn(p, low, pence, high));
                break;
            case 8:
                put("right(" + p + ", " + low + ", " + pence + ", " + high + ")",
                    mine.right(p, low, pence, high), model.right(p, low, pence, high));
                break;
            case 9:
                int what = any(wild, draw(6));
                v = any(wild, number(Math.floorMod(what, 6)));
                int from = any(wild, draw(3) == 0 ? year() : draw(4));
                if (!wild && draw(2) == 0) {
                    low = 0;
                    high = 39;
                }
                put("act(" + plan + ", " + what + ", " + v + ", " + from + ", " + low + ", " + high + ")",
                    mine.act(plan, what, v, from, low, high), model.act(plan, what, v, from, low, high));
                break;
            case 10:
                boolean fee = draw(2) == 0;
                put("loan(" + p + ", " + plan + ", " + y + ", " + sum + ", " + fee + ")",
                    mine.loan(p, plan, y, sum, fee), model.loan(p, plan, y, sum, fee));
                break;
            case 11:
                put("leave(" + l + ", " + y + ")", mine.leave(l, y), model.leave(l, y));
                break;
            case 12:
                put("move(" + l + ", " + plan + ", " + y + ")", mine.move(l, plan, y), model.move(l, plan, y));
                break;
            default:
                put("sell(" + l + ", " + a + ", " + y + ")", mine.sell(l, a, y), model.sell(l, a, y));
                break;
        }
    }

    private static final String[] TEXTS = {
        "p", "r+p", "e<l?r:r*2", "o/1000", "y*10", "a=1?500:r", "(e-l)/1000", "!y*99", "-r+90", "o>50000&y<4?70:r/2",
        "p|e", "9999", "e=-1?40:e<l?20:60", "((((((((r))))))))", "(((((((((r)))))))))", "1234567", " 1 2 ", "--r", "1<2<3",
        "1?2:3:4", "a*100+y", "r/0", "r/(y-2)", "o*o*o*o*o", "x", "r r", "1?", "!(e<l)*r", "1-1-1", "2*3/4*5", "p&1|y",
        "1?0?11:12:13", "(1", "()", "1+", "e>l=1", "123456", "- - r", "y?y?y?1:2:3:4", "!!p*7",
    };
    private static final String SIGNS = "0123456789rpelyoa()!-+*/<>=&|?: x";

    /** Writes all of a text but what its end would bring in the next calls. */
    private void writeText() {
        int plan = draw(5);
        put("erase(" + plan + ")", mine.erase(plan), model.erase(plan));
        String text = TEXTS[draw(TEXTS.length)];
        if (draw(4) == 0) {
            text = drawn(6);
        }
        for (int i = 0; i < Math.min(text.length(), MOST_SIGNS) && got == want; i++) {
            char sign = draw(60) == 0 ? SIGNS.charAt(draw(SIGNS.length())) : text.charAt(i);
            put("write(" + plan + ", '" + sign + "')", mine.write(plan, sign), model.write(plan, sign));
        }
        if (got == want) {
            put("fault(" + plan + ") of " + text, mine.fault(plan), model.fault(plan));
        }
    }

    private String drawn(int deep) {
        int kind = deep == 0 ? draw(3) : draw(12);
        String part = kind < 3 ? "" : drawn(deep - 1);
        switch (kind) {
            case 0: return "" + draw(700);
            case 1: case 2: return "" + "rpelyoa".charAt(draw(7));
            case 3: return "(" + part + ")";
            case 4: return "!" + part;
            case 5: return "-" + part;
            case 6: return part + "?" + drawn(deep - 1) + ":" + drawn(deep - 1);
            case 7: return part + " ";
            default: return part + "|&<>=+-*/".charAt(draw(9)) + drawn(deep - 1);
        }
    }

    private void tellMore(int kind, boolean wild, int p, int l, int plan, int y, int z) {
        int a = any(wild, draw(4));
        switch (kind) {
            case 14:
                int sign = any(wild, SIGNS.charAt(draw(SIGNS.length())));
                put("write(" + plan + ", " + sign + ")", mine.write(plan, sign), model.write(plan, sign));
                break;
            case 15: put("erase(" + plan + ")", mine.erase(plan), model.erase(plan)); break;
            case 16:
                int sum = any(wild, 1 + draw(draw(2) == 0 ? 1000000000 : 100000));
                put("promise(" + a + ", " + y + ", " + sum + ")", mine.promise(a, y, sum), model.promise(a, y, sum));
                break;
            case 17:
                int low = wild ? y : Math.min(y, z);
                int high = wild ? z : Math.max(y, z);
                int pence = any(wild, pence());
                put("live(" + a + ", " + low + ", " + high + ", " + pence + ")",
                    mine.live(a, low, high, pence), model.live(a, low, high, pence));
                break;
            case 18: tellChances(wild); break;
            case 19:
                int v = any(wild, number(draw(6)));
                put("tell(" + v + ")", mine.tell(v), model.tell(v));
                break;
            case 20:
                int i = any(wild, draw(2));
                put("image(" + i + ")", mine.image(i), model.image(i));
                break;
            case 21:
                i = any(wild, draw(2));
                put("from(" + i + ")", mine.from(i), model.from(i));
                break;
            case 22:
                put("earnings(" + p + ", " + y + ", " + z + ")", mine.earnings(p, y, z), model.earnings(p, y, z));
                break;
            case 23:
                int what = any(wild, draw(6));
                put("force(" + plan + ", " + what + ", " + p + ", " + y + ")",
                    mine.force(plan, what, p, y), model.force(plan, what, p, y));
                break;
            case 24: put("planOf(" + l + ", " + y + ")", mine.planOf(l, y), model.planOf(l, y)); break;
            default: put("fault(" + plan + ")", mine.fault(plan), model.fault(plan)); break;
        }
    }

    private void tellChances(boolean wild) {
        int state = any(wild, draw(3));
        int a = draw(11);
        int b = draw(11 - a);
        int c = draw(11 - a - b);
        int d = any(wild, 10 - a - b - c);
        put("chances(" + state + ", " + b + ", " + a + ", " + c + ", " + d + ")",
            mine.chances(state, b, a, c, d), model.chances(state, b, a, c, d));
    }

    private void ask(int kind, boolean wild, int p, int l, int plan, int y, int z) {
        int what = any(wild, draw(5));
        int which = any(wild, draw(6));
        int v = any(wild, number(Math.floorMod(which, 6)));
        switch (kind) {
            case 26:
            case 27:
                put("owes(" + l + ", " + y + ", " + z + ", " + what + ")",
                    mine.owes(l, y, z, what), model.owes(l, y, z, what));
                break;
            case 28:
                put("all(" + p + ", " + y + ", " + z + ", " + what + ")",
                    mine.all(p, y, z, what), model.all(p, y, z, what));
                break;
            case 29: put("rate(" + l + ", " + y + ", " + z + ")", mine.rate(l, y, z), model.rate(l, y, z)); break;
            case 30: put("over(" + p + ", " + y + ", " + z + ")", mine.over(p, y, z), model.over(p, y, z)); break;
            case 31:
                int book = any(wild, draw(4));
                int k = any(wild, draw(2));
                put("book(" + book + ", " + y + ", " + z + ", " + k + ")",
                    mine.book(book, y, z, k), model.book(book, y, z, k));
                break;
            case 32:
                int sum = any(wild, 1 + draw(draw(2) == 0 ? 20000 : 2000000));
                put("early(" + p + ", " + sum + ", " + y + ", " + z + ")",
                    mine.early(p, sum, y, z), model.early(p, sum, y, z));
                break;
            case 33:
                int life = any(wild, draw(4));
                int to = draw(3) == 0 ? -1 : plan;
                put("choice(" + p + ", " + to + ", " + life + ", " + y + ", " + z + ")",
                    mine.choice(p, to, life, y, z), model.choice(p, to, life, y, z));
                break;
            case 34: askForetold(wild, p, y); break;
            case 35:
                put("tried(" + plan + ", " + which + ", " + v + ", " + y + ", " + z + ")",
                    mine.tried(plan, which, v, y, z), model.tried(plan, which, v, y, z));
                break;
            case 36:
                long asked = draw(4) == 0 ? -draw(100) : draw(draw(2) == 0 ? 100000 : 3000000);
                put("best(" + plan + ", " + which + ", " + y + ", " + z + ", " + p + ", " + asked + ")",
                    mine.best(plan, which, y, z, p, asked), model.best(plan, which, y, z, p, asked));
                break;
            default:
                if (draw(3) == 0) {
                    put("digest()", mine.digest(), model.digest());
                } else if (draw(6) == 0) {
                    put("untell()", mine.untell(), model.untell());
                } else {
                    put("count(" + which + ")", mine.count(which), model.count(which));
                }
        }
    }

    private void askForetold(boolean wild, int p, int y) {
        int state = any(wild, draw(4));
        int pence = any(wild, pence());
        int n = any(wild, 1 + draw(draw(4) == 0 ? 5 : 3));
        int what = any(wild, draw(4));
        put("foretold(" + p + ", " + state + ", " + pence + ", " + y + ", " + n + ", " + what + ")",
            mine.foretold(p, state, pence, y, n, what), model.foretold(p, state, pence, y, n, what));
    }
}
