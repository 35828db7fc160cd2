/** Section 3 of the document: the edges of TEXTS, with answers worked out by hand. */
public final class TextsTest {
    private static final int NONE = -1, FULL = -4, GROWN = 4;
    private static final String HALF = "65536*65536*65536*32768";
    private static final Due due = new Due();

    public static void main(String[] args) {
        fiftyCharacters();
        oneForEachPlan();
        characters();
        digits();
        seventhDigit();
        opened();
        ninthOpened();
        blanks();
        tooEarly();
        firstThatCanNotStand();
        levels();
        choices();
        truths();
        signs();
        divided();
        wraps();
        allIsWorked();
        lettersOfEarnings();
        lettersOfPlans();
        lettersOfLoans();
        due.end("TextsTest");
    }

    private static LearnLoans house() {
        LearnLoans x = new LearnLoans();
        x.person(0);
        x.loan(0, 0, 0, 1000, false);
        return x;
    }

    private static void faults(String text, int fault) {
        LearnLoans x = house();
        Scene.write(x, 0, text);
        due.is("3 fault of '" + text + "'", x.fault(0), fault);
        due.is("3 rate of '" + text + "', its number", x.rate(0, 1, 39), 30);
    }

    private static void tells(String text, int v) {
        LearnLoans x = house();
        Scene.write(x, 0, text);
        due.is("3 fault of '" + text + "'", x.fault(0), NONE);
        due.is("3 what '" + text + "' tells", x.rate(0, 1, 39), v);
        due.is("3 grown by '" + text + "'", x.owes(0, 1, 39, GROWN), v);
    }

    private static void holds(String text) {
        tells(text, 1);
    }

    private static void fiftyCharacters() {
        LearnLoans x = house();
        Scene.write(x, 0, "0+".repeat(24) + "0");
        due.is("3 the 49th", x.fault(0), NONE);
        due.is("3 of 49", x.rate(0, 1, 39), 0);
        due.is("3 the 50th is taken", x.write(0, '7'), 50);
        due.is("3 and read", x.rate(0, 1, 39), 7);
        due.is("3 the 51st is refused", x.write(0, '7'), FULL);
        due.is("3 a blank too", x.write(0, ' '), FULL);
        due.is("3 and not read", x.rate(0, 1, 39), 7);
        due.is("3 no fault of it", x.fault(0), NONE);
        due.is("3 fifty were written", x.erase(0), 50);
        due.is("3 then the first again", x.write(0, '8'), 1);
        tells("-".repeat(49) + "5", 0);
        tells("-".repeat(48) + "5 ", 5);
        tells("!".repeat(49) + "5", 0);
        tells("!".repeat(48) + "5 ", 1);
        tells(" ".repeat(49) + "9", 9);
        tells("9" + " ".repeat(49), 9);
        tells("1?".repeat(12) + "8" + ":9".repeat(12), 8);
        tells("0?9:".repeat(12) + "77", 77);
        faults("0+".repeat(25), 501);
        faults("0+".repeat(24) + "0x", 491);
        faults(" ".repeat(50), 501);
        faults("!".repeat(50), 501);
        faults("1?".repeat(25), 501);
        faults("0+".repeat(21) + "01234567", 422);
        faults(" ".repeat(41) + "(((((((((", 493);
    }

    private static void oneForEachPlan() {
        LearnLoans x = house();
        for (int plan = 0; plan < 5; plan++) {
            due.is("3 empty", x.fault(plan), 1);
            due.is("3 the first of each", x.write(plan, '1' + plan), 1);
            due.is("3 no fault", x.fault(plan), NONE);
        }
        for (int plan = 0; plan < 5; plan++) {
            x.move(0, plan, 0);
            due.is("3 what each tells", x.rate(0, 1, 39), 1 + plan);
        }
        x.write(3, '+');
        due.is("3 a fault in one", x.fault(3), 21);
        due.is("3 none in another", x.fault(4), NONE);
        x.move(0, 3, 0);
        due.is("3 its number then", x.rate(0, 1, 39), 30);
        x.write(3, '9');
        due.is("3 no more", x.fault(3), NONE);
        due.is("3 4 + 9", x.rate(0, 1, 39), 13);
        x.erase(3);
        due.is("3 empty again", x.fault(3), 1);
        due.is("3 its number again", x.rate(0, 1, 39), 30);
    }

    /** Of all characters those that can stand at first, behind a UNIT and behind an open one. */
    private static void characters() {
        for (char c = 0; c < 128; c++) {
            boolean letter = "rpelyoa".indexOf(c) >= 0;
            boolean digit = c >= '0' && c <= '9';
            boolean blank = c == ' ';
            int first = letter || digit ? NONE : blank || c == '!' || c == '-' || c == '(' ? 11 : 1;
            faultOf("", c, first);
            boolean between = "?|&<>=+-*/".indexOf(c) >= 0;
            faultOf("r", c, blank ? NONE : between ? 21 : 11);
            faultOf("1", c, blank || digit ? NONE : between ? 21 : 11);
            faultOf("(r", c, blank || between || c == ')' ? (c == ')' ? NONE : 31) : 21);
            faultOf("r?r", c, blank || between || c == ':' ? 41 : 31);
            faultOf("r<r", c, blank ? NONE : between && "<>=".indexOf(c) < 0 ? 41 : 31);
        }
    }

    private static void faultOf(String ahead, char c, int fault) {
        LearnLoans x = new LearnLoans();
        Scene.write(x, 0, ahead);
        x.write(0, c);
        due.is("3 fault of '" + ahead + "' and character " + (int) c, x.fault(0), fault);
    }

    private static void digits() {
        tells("0", 0);
        tells("9", 9);
        tells("000007", 7);
        tells("007", 7);
        tells("100000/1000", 100);
        tells("999999/10000", 99);
        tells("123456-123400", 56);
        tells("(999999)/(100000)", 9);
        holds("999999+1=1000*1000");
        holds("123456=100000+23456");
    }

    private static void seventhDigit() {
        faults("1234567", 2);
        faults("0000000", 2);
        faults("12345678901234567890", 2);
        faults(" 1234567", 12);
        faults("r+1234567+x", 22);
        faults("123456+1234567", 72);
        faults("1?2:1234567", 42);
        faults("((1234567))", 22);
        faults("-1234567", 12);
        faults("1234567x", 2);
        faults("1234567)", 2);
        faults("x1234567", 1);
        faults("r 1234567", 21);
        faults("r1234567", 11);
        faults("1 234567", 21);
        faults("123456 7", 71);
        faults("123456x7", 61);
    }

    private static void opened() {
        tells("((((((((7))))))))", 7);
        tells("((((((((7))))))))+((((((((8))))))))", 15);
        tells("(((((((1)+(2)))))))+(3)", 6);
        tells("((((((((1)+(2))))))))", 3);
        tells("-(-(-(-(-(-(-(-(7))))))))", 7);
        tells("1?((((((((7)))))))):2", 7);
        tells("(1)?(7):(2)", 7);
        tells("(1?7:2)", 7);
        tells("2*(1|0)", 2);
        tells("2*(1<2)", 2);
        faults("(((((((7", 81);
        faults("((((((((7)))))))", 161);
        faults("((((((((7)))))))))", 171);
    }

    private static void ninthOpened() {
        faults("(((((((((7)))))))))", 83);
        faults("(((((((((", 83);
        faults("((((((((((", 83);
        faults("((((((((-(7)))))))))", 93);
        faults("((((((((7+(7)))))))))", 103);
        faults("((((((((7)+(7)))))))", 201);
        faults("((((((((7(7", 91);
        faults("((((((((7)(7", 101);
        faults("(1)+(((((((((7", 123);
        faults("( ((((((( (", 103);
        faults("(((((((((x", 83);
        faults("((((((((x(", 81);
    }

    private static void blanks() {
        tells("   7", 7);
        tells("7   ", 7);
        tells(" ( ( 7 ) ) ", 7);
        tells(" 1 ? 7 : 8 ", 7);
        tells(" 0 | 0 & 1 | 9 ", 1);
        tells(" - - 7 ", 7);
        tells(" ! ! 7 ", 1);
        tells(" 1 + 2 * 3 - 8 / 4 ", 5);
        tells(" 1 < 2 ", 1);
        tells("r   ", 30);
        faults("1 2", 21);
        faults("r r", 21);
        faults("1  + + 2", 51);
        faults("7 x", 21);
        faults("( )", 21);
        faults(" )", 11);
    }

    private static void tooEarly() {
        String[] texts = {"", " ", "   ", "(", "((", "(7", "(7 ", "!", "-", "- ", "--", "7+", "7-", "7*", "7/", "7|",
            "7&", "7<", "7>", "7=", "7?", "7?7", "7?7 ", "7?7:", "7?7?7:7", "7?7?7:7:", "(7?", "(7?7:7", "7+(", "7+-"};
        for (String text : texts) {
            faults(text, 10 * text.length() + 1);
        }
    }

    private static void firstThatCanNotStand() {
        String[] texts = {"+7", "*7", "/7", "|7", "&7", "<7", ">7", "=7", "?7:7", ":7", ")", "x", "%7",
            "7:7", "7)", "7(7)", "7!", "7!7", "7r", "7.5", "()",
            "7+*7", "7**7", "7||7", "7&&7", "7<>7", "7==7", "7?:7", "7-)", "(7:7)", "7<<7", "7<?7:7", "7?)",
            "7<7<7", "7>7=7", "7=7=7", "(7)7", "(7)r", "(7)(7)", "7?7)", "(7))",
            "7?(7:7)", "7+7?7)", "(7?7)", "7?7:7:7", "7<7+7<7", "7<7&7<7=7"};
        int[] places = {0, 0, 0, 0, 0, 0, 0, 0, 0, 0, 0, 0, 0,
            1, 1, 1, 1, 1, 1, 1, 1,
            2, 2, 2, 2, 2, 2, 2, 2, 2, 2, 2, 2,
            3, 3, 3, 3, 3, 3, 3, 3,
            4, 5, 4, 5, 5, 7};
        due.is("3 as many places", places.length, texts.length);
        for (int i = 0; i < texts.length; i++) {
            faults(texts[i], 10 * places[i] + 1);
        }
        faults("x+y+", 1);
        faults("7+x+", 21);
        faults("7 7 7", 21);
    }

    private static void levels() {
        tells("2+3*4", 14);
        tells("2*3+4", 10);
        tells("20-3-4", 13);
        tells("20-(3-4)", 21);
        tells("100/5/2", 10);
        tells("100/(5/2)", 50);
        tells("7/2*2", 6);
        tells("7*2/2", 7);
        tells("2+3<6", 1);
        tells("6>2+3", 1);
        tells("2<1+2", 1);
        tells("2&1<1", 0);
        tells("1<1&2", 0);
        tells("1|1&0", 1);
        tells("0&1|1", 1);
        tells("0&(1|1)", 0);
        tells("1|0?5:6", 5);
        tells("0|0?5:6|0", 1);
        tells("-2+9", 7);
        tells("!2+9", 9);
        tells("!0*9", 9);
        tells("9-!0", 8);
        tells("9--1", 10);
        tells("-3*-3", 9);
        tells("-7+7=0", 1);
        tells("1<2&2<3&3<4", 1);
        tells("1<2&2<2&3<4", 0);
    }

    private static void choices() {
        tells("1?2:3", 2);
        tells("0?2:3", 3);
        tells("-1?2:3", 2);
        tells("0?2:0?4:5", 5);
        tells("0?2:1?4:5", 4);
        tells("1?2:0?4:5", 2);
        tells("1?0?4:5:6", 5);
        tells("1?1?4:5:6", 4);
        tells("0?1?4:5:6", 6);
        tells("(0?2:3)+(1?4:5)", 7);
        tells("1?2:3+100", 2);
        tells("0?2:3+100", 103);
    }

    private static void truths() {
        tells("5<6", 1);
        tells("6<6", 0);
        tells("7<6", 0);
        tells("7>6", 1);
        tells("6>6", 0);
        tells("5>6", 0);
        tells("6=6", 1);
        tells("5=6", 0);
        tells("7=6", 0);
        tells("-1<0", 1);
        tells("0>-1", 1);
        tells("5|7", 1);
        tells("0|7", 1);
        tells("5|0", 1);
        tells("0|0", 0);
        tells("-5|0", 1);
        tells("5&7", 1);
        tells("4&3", 1);
        tells("0&7", 0);
        tells("5&0", 0);
        tells("0&0", 0);
        tells("-5&-7", 1);
        tells("(5<6)*100+(6<5)*10", 100);
        tells("(5|7)+(5&7)+!0", 3);
    }

    private static void signs() {
        tells("!0", 1);
        tells("!1", 0);
        tells("!5", 0);
        tells("!-5", 0);
        tells("!!5", 1);
        tells("!!0", 0);
        tells("-!0+5", 4);
        tells("!-0+5", 6);
        tells("--5", 5);
        tells("---5+10", 5);
        tells("-(5-9)", 4);
        tells("!(5-5)", 1);
        tells("-0", 0);
    }

    private static void divided() {
        holds("7/2=3");
        holds("-7/2=-3");
        holds("7/-2=-3");
        holds("-7/-2=3");
        holds("(0-7)/2=-3");
        holds("1/2=0");
        holds("-1/2=0");
        holds("-999998/999999=0");
        holds("5/0=0");
        holds("-5/0=0");
        holds("0/0=0");
        holds("0/5=0");
        holds("5/(3-3)*9=0");
        holds("7+5/0=7");
        holds("6/-1=-6");
    }

    /** HALF is the least of all longs: a 1 and 63 zeros. */
    private static void wraps() {
        holds(HALF + "<0");
        holds(HALF + "-1>0");
        holds(HALF + "-1+1<0");
        holds("-(" + HALF + ")<0");
        holds("-(" + HALF + ")=" + HALF);
        holds(HALF + "/-1<0");
        holds(HALF + "/-1=" + HALF);
        holds(HALF + "/0=0");
        holds(HALF + "+" + HALF + "=0");
        holds(HALF + "*2=0");
        holds("65536*65536*65536*65536=0");
        holds("65536*65536*65536*16384>0");
        holds("65536*65536*32768/65536/65536=32768");
        holds("!(" + HALF + ")=0");
        holds(HALF + "&1");
        tells(HALF, 0);
        tells(HALF + "-1", 500);
        tells("65536*65536", 500);
        tells("65536*65536+9", 500);
        tells("65536*65536*65536*65536+9", 9);
        tells("9-65536*65536", 0);
        tells("65536*32768", 500);
    }

    /** What does not count is worked too, and nothing comes of it. */
    private static void allIsWorked() {
        tells("1|1/0", 1);
        tells("0&1/0", 0);
        tells("1?7:1/0", 7);
        tells("0?1/0:7", 7);
        tells("0&" + HALF + "/-1", 0);
    }

    private static void lettersOfEarnings() {
        LearnLoans x = house();
        x.earn(0, 2, 0, 2);
        x.earn(0, 3, 10000000, 3);
        Scene.write(x, 0, "(e=-1)*100+(e=0)*200+(e>0)*e/100000");
        due.is("3 e of none", x.rate(0, 1, 39), 100);
        due.is("3 e of nothing", x.rate(0, 2, 39), 200);
        due.is("3 e not known yet", x.rate(0, 2, 1), 100);
        due.is("3 e of the most", x.rate(0, 3, 39), 100);
        Scene.write(x, 0, "e=10000000");
        due.is("3 a seventh digit", x.fault(0), 22);
        Scene.write(x, 0, "e=10*1000000/10*100|e=100000*100");
        due.is("3 a seventh digit behind others", x.fault(0), 52);
        Scene.write(x, 0, "(e=100000*100)*7");
        due.is("3 e of the most, to the penny", x.rate(0, 3, 39), 7);
        x.land(0, 3, 1, 39);
        Scene.write(x, 0, "a*10+a+e");
        due.is("3 abroad without", x.rate(0, 1, 39), 32);
        due.is("3 abroad with nothing", x.rate(0, 2, 39), 33);
        due.is("3 at home", x.rate(0, 0, 39), 0);
    }

    private static void lettersOfPlans() {
        LearnLoans x = house();
        x.land(0, 1, 0, 39);
        x.scale(1, 5000);
        x.act(0, 0, 400, 3, 0, 39);
        x.act(0, 2, 77, 4, 0, 39);
        x.prices(2, -100);
        x.prices(3, 500);
        Scene.write(x, 0, "l/10000");
        due.is("3 l as at first", x.rate(0, 2, 39), 200);
        due.is("3 l in force, cut", x.rate(0, 3, 39), 0);
        Scene.write(x, 0, "l");
        due.is("3 l without scale", x.rate(0, 3, 39), 400);
        Scene.write(x, 0, "r");
        due.is("3 r as at first", x.rate(0, 3, 39), 30);
        due.is("3 r in force", x.rate(0, 4, 39), 77);
        Scene.write(x, 0, "p");
        due.is("3 p at first", x.rate(0, 1, 39), 0);
        due.is("3 p below 0", x.rate(0, 2, 39), 0);
        due.is("3 p of the year", x.rate(0, 3, 39), 500);
        Scene.write(x, 0, "-p");
        due.is("3 p was below 0", x.rate(0, 2, 39), 100);
        x.act(1, 2, 5, 0, 0, 39);
        x.act(1, 0, 6, 0, 0, 39);
        x.move(0, 1, 5);
        Scene.write(x, 1, "r*10+l");
        due.is("3 r and l of the plan to which it is moved", x.rate(0, 5, 39), 56);
        due.is("3 not ahead", x.rate(0, 4, 39), 0);
    }

    private static void lettersOfLoans() {
        LearnLoans x = new LearnLoans();
        x.person(0);
        x.person(0);
        x.act(0, 5, 0, 0, 0, 39);
        x.loan(0, 0, 3, 100, false);
        x.loan(0, 0, 5, 200, false);
        x.loan(1, 0, 5, 400, false);
        x.land(0, 1, 5, 5);
        x.land(1, 2, 5, 5);
        Scene.write(x, 0, "y");
        due.is("3 y in the year", x.rate(0, 3, 39), 0);
        due.is("3 y the next", x.rate(0, 4, 39), 1);
        due.is("3 y in the last", x.rate(0, 39, 39), 36);
        due.is("3 y of each loan", x.rate(1, 39, 39), 34);
        Scene.write(x, 0, "a*100");
        due.is("3 a at home", x.rate(0, 4, 39), 0);
        due.is("3 a of the year", x.rate(0, 5, 39), 100);
        due.is("3 a of each person", x.rate(2, 5, 39), 200);
        Scene.write(x, 0, "(y=2&o=100)*500");
        due.is("3 o ahead of drawing", x.rate(0, 3, 39), 0);
        due.is("3 o of each loan", x.owes(0, 5, 39, 0), 150);
        due.is("3 o of another", x.owes(1, 7, 39, 0), 200);
        Scene.write(x, 0, "o");
        due.is("3 o ahead of growing", x.rate(0, 4, 39), 100);
        due.is("3 grown by it", x.owes(0, 4, 39, 0), 110);
        due.is("3 o the next year", x.rate(0, 5, 39), 110);
        due.is("3 o not drawn yet", x.rate(2, 5, 39), 0);
        due.is("3 o when drawn", x.rate(2, 6, 39), 400);
    }
}
