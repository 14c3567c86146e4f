/** Each sentence on STUDENTS, where they MAY go, and what is KEPT (promises 11 to 14, 18, 19) that names an edge. */
public final class StudentsTest extends Asked {
    public static void main(String[] args) {
        students();
        sixteen();
        newStudent();
        needs();
        states();
        levels();
        noTest();
        levelOfAnybody();
        wishes();
        wishRefused();
        wishOnlyWaiting();
        may();
        mayByLowestNumber();
        mayInForce();
        mayEitherWay();
        mayMeets();
        mayInAnyState();
        balance();
        balanceOfDone();
        balanceOfOthers();
        balanceAtItsWidest();
        noSuchBalance();
        keptOfNothing();
        keptNumbers();
        keptBalance();
        keptBalanceBelow();
        keptBeds();
        keptInForce();
        end();
    }

    private static int studentOf(int home, int subject, int grade, int credits, int needs) {
        return office(3).student(home, subject, grade, credits, needs);
    }

    private static void students() {
        sentence("A STUDENT, WAITING, without tests and WISHES: the number; NONE: no such ones, 16 are there.");
        takes("home, of three", 0, 2, n -> studentOf(n, 7, 100, 99, 4095) == 0);
        takes("home, of eight", 0, 7, n -> office(8).student(n, 0, 0, 0, 0) == 0);
        takes("home, of one", 0, 0, n -> office(1).student(n, 0, 0, 0, 0) == 0);
        takes("subject", 0, 7, n -> studentOf(2, n, 100, 99, 4095) == 0);
        takes("grade", 0, 100, n -> studentOf(2, 7, n, 99, 4095) == 0);
        takes("credits", 0, 99, n -> studentOf(2, 7, 100, n, 4095) == 0);
        takes("needs", 0, 4095, n -> studentOf(2, 7, 100, 99, n) == 0);
        StudentSwaps x = office(1);
        x.student(1, 0, 0, 0, 0);
        x.student(0, 8, 0, 0, 0);
        x.student(0, 0, 101, 0, 0);
        x.student(0, 0, 0, 100, 0);
        x.student(0, 0, 0, 0, 4096);
        due("none was made", x.count(3), 0);
        due("so the first is 0", x.student(0, 0, 0, 0, 0), 0);
    }

    private static void sixteen() {
        sentence("STUDENTS 0 to 15: a HOME (SCHOOL), a SUBJECT, a GRADE, CREDITS");
        StudentSwaps x = office(2);
        for (int s = 0; s < 16; s++) {
            due("number", x.student(s % 2, s % 8, s, s, s), s);
        }
        due("a seventeenth", x.student(0, 0, 0, 0, 0), NONE);
        due("sixteen", x.count(3), 16);
        due("the last is there", x.look(15, 6), 15);
        due("there is no number 16", x.look(16, 0), NONE);
        x.out(3);
        due("one who is out is there, too", x.student(0, 0, 0, 0, 0), NONE);
        x.year();
        due("in another year, too", x.student(0, 0, 0, 0, 0), NONE);
    }

    private static void newStudent() {
        sentence("A STUDENT, WAITING, without tests and WISHES");
        StudentSwaps x = office(8);
        due("made", x.student(7, 6, 5, 4, 3), 0);
        long[] want = {0, NONE, NONE, NONE, 7, 6, 5, 4, 3, 0};
        for (int what = 0; what < want.length; what++) {
            due("look " + what, x.look(0, what), want[what]);
        }
        for (int i = 0; i < 4; i++) {
            due("no wish " + i, x.look(0, 10 + i), NONE);
            due("no test " + i, x.look(0, 20 + i), NONE);
        }
        due("waiting", x.count(4), 1);
    }

    private static void needs() {
        sentence("NEEDS (TOPICS 0 to 11, as bits)");
        StudentSwaps x = office(2);
        for (int topic = 0; topic < 12; topic++) {
            due("topic " + topic, x.student(0, 0, 0, 0, 1 << topic), topic);
            due("it is needed", x.look(topic, 8), 1 << topic);
            due("and lacking", x.study(topic, 1, 2), 1 << topic);
        }
        due("there is no topic 12", x.student(0, 0, 0, 0, 1 << 12), NONE);
        due("nor the highest bit", x.student(0, 0, 0, 0, Integer.MIN_VALUE), NONE);
        due("none", x.look(x.student(0, 0, 0, 0, 0), 8), 0);
        due("all", x.look(x.student(0, 0, 0, 0, 4095), 8), 4095);
    }

    private static void states() {
        sentence("STATES: 0 WAITING, 1 PLACED (at a SCHOOL, by an AGREEMENT), 2 OUT (for this YEAR), 3 DONE.");
        StudentSwaps x = placedOne();
        x.out(1);
        wisher(x, 0);
        due("placed, out, waiting", x.look(0, 0) * 100 + x.look(1, 0) * 10 + x.look(2, 0), 120);
        due("placed at a school", x.look(0, 1), 1);
        due("by an agreement", x.look(0, 2), 0);
        for (int s = 1; s < 3; s++) {
            due("at none", x.look(s, 1), NONE);
            due("by none", x.look(s, 2), NONE);
        }
        x.year();
        due("done, waiting, waiting", x.look(0, 0) * 100 + x.look(1, 0) * 10 + x.look(2, 0), 300);
        due("at none any more", x.look(0, 1), NONE);
        due("by none any more", x.look(0, 2), NONE);
        due("one of each is counted", x.count(4) * 1000 + x.count(5) * 100 + x.count(6) * 10 + x.count(7), 2001);
        x.year();
        due("done for ever", x.look(0, 0), 3);
    }

    private static void levels() {
        sentence("The LEVEL of STUDENT s in a TONGUE (NONE: no test): true; false: no such ones.");
        takes("level", NONE, 9, n -> placedOne().level(0, 3, n));
        takes("tongue", 0, 3, n -> placedOne().level(0, n, 9));
        takes("student, of two", 0, 1, n -> placedOne().level(n, 0, 0));
        StudentSwaps x = office(1);
        for (int s = 0; s < 16; s++) {
            x.student(0, 0, 0, 0, 0);
        }
        due("of the last", x.level(15, 3, 9), true);
        due("it is so", x.look(15, 23), 9);
        due("of no other tongue", x.look(15, 22), NONE);
        due("of nobody else", x.look(14, 23), NONE);
        due("0 is a test", x.level(15, 3, 0), true);
        due("it is 0", x.look(15, 23), 0);
        due("the test is gone", x.level(15, 3, NONE), true);
        due("there is none", x.look(15, 23), NONE);
        due("nor twice", x.level(15, 3, NONE), true);
    }

    private static void noTest() {
        sentence("LEVELS of TONGUES (0 to 9 each, or no test: 0 counts)");
        for (int h = 1; h < 4; h++) {
            StudentSwaps x = office(4);
            agree(x, 0, h, "(t=0)");
            agree(x, 0, h, "(t=9)");
            agree(x, 0, h, "(t<9)");
            wisher(x, 0, h);
            due("no test", x.may(0, h), 0);
            x.level(0, h, 0);
            due("0", x.may(0, h), 0);
            x.level(0, h, 1);
            due("1", x.may(0, h), 2);
            x.level(0, h, 9);
            due("9", x.may(0, h), 1);
            x.level(0, h, NONE);
            due("no test any more", x.may(0, h), 0);
        }
        StudentSwaps y = office(2);
        y.student(0, 0, 0, 0, 3);
        y.course(1, 1, 1, 0, 0);
        y.course(1, 2, 1, 1, 0);
        due("a course of level 0 needs no test", y.study(0, 1, 0), 1);
    }

    private static void levelOfAnybody() {
        sentence("The LEVEL of STUDENT s in a TONGUE");
        StudentSwaps x = placedOne();
        due("placed", x.level(0, 1, 5), true);
        x.out(1);
        due("out", x.level(1, 1, 6), true);
        x.year();
        due("done", x.level(0, 1, 7), true);
        due("both", x.look(0, 21) * 10 + x.look(1, 21), 76);
    }

    private static void wishes() {
        sentence("WISHES (one to four SCHOOLS, no two alike, not HOME, the first best)");
        StudentSwaps x = office(8);
        x.student(3, 0, 0, 0, 0);
        due("none is there", x.look(0, 9), 0);
        int[] row = {7, 0, 4, 1};
        for (int w = 0; w < 4; w++) {
            due("wish " + w, x.wish(0, row[w]), true);
            due("so many", x.look(0, 9), w + 1);
            for (int i = 0; i < 4; i++) {
                due("wish " + i + " of " + w, x.look(0, 10 + i), i <= w ? row[i] : NONE);
            }
            due("the first again", x.wish(0, 7), false);
            due("the last again", x.wish(0, row[w]), false);
            due("home", x.wish(0, 3), false);
            due("as many as before", x.look(0, 9), w + 1);
        }
        due("a fifth", x.wish(0, 2), false);
        due("four", x.look(0, 9), 4);
        due("there is no fifth", x.look(0, 14), NONE);
        agree(x, 3, 4, "n1");
        agree(x, 3, 1, "n1");
        due("the first best that can be", x.round() * 10 + x.look(0, 3), 12);
    }

    private static void wishRefused() {
        sentence("SCHOOL h is the next WISH of STUDENT s: true; false: no such ones, HOME, it is one, four are there, not"
                + " WAITING.");
        takes("school, of four, home is 0", 1, 3, n -> wished(office(4), 0, n));
        takes("school, of four, home is 3", 0, 2, n -> wished(office(4), 3, n));
        takes("school, of eight, home is 0", 1, 7, n -> wished(office(8), 0, n));
        takes("student, of two", 0, 1, n -> {
            StudentSwaps x = office(2);
            x.student(0, 0, 0, 0, 0);
            x.student(0, 0, 0, 0, 0);
            return x.wish(n, 1);
        });
        due("the only school is home", wished(office(1), 0, 0), false);
        due("nobody is there", office(2).wish(0, 1), false);
        StudentSwaps y = office(3);
        y.student(0, 0, 0, 0, 0);
        y.student(1, 0, 0, 0, 0);
        due("one's wish", y.wish(0, 2), true);
        due("is not another's", y.wish(1, 2), true);
        due("nor is a home", y.wish(1, 0), true);
    }

    private static boolean wished(StudentSwaps x, int home, int h) {
        x.student(home, 0, 0, 0, 0);
        return x.wish(0, h);
    }

    private static void wishOnlyWaiting() {
        sentence("four are there, not WAITING");
        StudentSwaps x = placedOne();
        due("placed", x.wish(0, 2), false);
        x.out(1);
        due("out", x.wish(1, 2), false);
        x.year();
        due("done", x.wish(0, 2), false);
        due("waiting again", x.wish(1, 2), true);
        due("the wishes of before are there", x.look(1, 10) * 10 + x.look(1, 11), 12);
        due("none of them twice", x.wish(1, 1), false);
        StudentSwaps y = placedOne();
        y.beds(1, 0);
        due("one is moved", y.mend(), 1);
        due("waiting after a mend", y.wish(0, 2), true);
    }

    private static void may() {
        sentence("The AGREEMENT by which STUDENT s MAY go to SCHOOL h; NONE: they may not, no such ones.");
        takes("student, of two", 0, 1, n -> placedOne().may(n, 1) == 0);
        takes("school, of three", 1, 1, n -> placedOne().may(0, n) == 0);
        StudentSwaps x = office(8);
        for (int h = 1; h < 8; h++) {
            agree(x, 0, h, "n0;b0");
        }
        x.student(0, 0, 0, 0, 0);
        for (int h = 0; h < 8; h++) {
            due("n and beds do not matter, nor a wish", x.may(0, h), h - 1);
        }
        due("no such school", x.may(0, 8), NONE);
        due("nobody is there", office(2).may(0, 1), NONE);
    }

    private static void mayByLowestNumber() {
        sentence("A STUDENT MAY go to a SCHOOL by the AGREEMENT of the lowest number");
        for (int grade = 0; grade <= 100; grade++) {
            StudentSwaps x = office(2);
            int lowest = NONE;
            for (int i = 0; i < 12; i++) {
                agree(x, 0, 1, "(g>" + (99 - 9 * i) + ")");
                lowest = lowest == NONE && grade > 99 - 9 * i ? i : lowest;
            }
            x.student(0, 0, grade, 0, 0);
            due("grade " + grade, x.may(0, 1), lowest);
        }
    }

    private static void mayInForce() {
        sentence("that is IN FORCE this YEAR");
        StudentSwaps x = office(2);
        agree(x, 0, 1, "y2-3");
        agree(x, 0, 1, "y3-4");
        agree(x, 0, 1, "y98-98");
        agree(x, 0, 1, "y99-99");
        agree(x, 0, 1, "y0-0");
        x.student(0, 0, 0, 0, 0);
        for (int y = 0; y <= 99; y++) {
            int want = y == 0 ? 4 : y == 2 || y == 3 ? 0 : y == 4 ? 1 : y == 98 ? 2 : y == 99 ? 3 : NONE;
            due("year " + y, x.may(0, 1), want);
            x.year();
        }
    }

    private static void mayEitherWay() {
        sentence("between HOME and it");
        StudentSwaps x = office(4);
        agree(x, 2, 1, "n1");
        for (int home = 0; home < 4; home++) {
            x.student(home, 0, 0, 0, 0);
            for (int h = 0; h < 4; h++) {
                boolean isBetween = home == 1 && h == 2 || home == 2 && h == 1;
                due("from " + home + " to " + h, x.may(home, h), isBetween ? 0 : NONE);
            }
        }
    }

    private static void mayMeets() {
        sentence("that MEETS GRADE, the LEVEL of its TONGUE, CREDITS, SUBJECT.");
        StudentSwaps x = office(3);
        agree(x, 0, 1, "(g>50&t>5&c<60&s=7)");
        int[][] tries = {{51, 6, 59, 7, 1}, {50, 6, 59, 7, 0}, {51, 5, 59, 7, 0}, {51, 6, 60, 7, 0}, {51, 6, 59, 6, 0},
            {100, 9, 0, 7, 1}, {0, 0, 0, 0, 0}};
        for (int i = 0; i < tries.length; i++) {
            int[] t = tries[i];
            x.student(0, t[3], t[0], t[2], 0);
            x.level(i, 1, t[1]);
            due("try " + i, x.may(i, 1), t[4] - 1);
        }
        x.level(0, 1, NONE);
        x.level(0, 0, 9);
        due("the home's tongue does not count", x.may(0, 1), NONE);
        StudentSwaps y = office(3);
        agree(y, 1, 0, "(t>5)");
        y.student(1, 0, 0, 0, 0);
        y.level(0, 1, 9);
        due("nor that of the second school", y.may(0, 0), NONE);
        y.level(0, 0, 6);
        due("but that of the school to which they go", y.may(0, 0), 0);
    }

    private static void mayInAnyState() {
        sentence("The AGREEMENT by which STUDENT s MAY go to SCHOOL h");
        StudentSwaps x = placedOne();
        x.out(1);
        due("placed", x.may(0, 1), 0);
        due("out", x.may(1, 1), 0);
        x.year();
        due("done", x.may(0, 1), 0);
        x.year();
        due("waiting", x.may(1, 1), 0);
    }

    private static void balance() {
        sentence("THE BALANCE of an AGREEMENT: those of its first SCHOOL that were, or are, PLACED by it, less those of its"
                + " second one.");
        StudentSwaps x = office(2);
        agree(x, 1, 0, "n9;b9;(g<60)");
        agree(x, 0, 1, "n9;b9");
        wisher(x, 1, 0);
        wisher(x, 1, 0);
        wisher(x, 0, 1);
        wisher(x, 0, 1);
        wisher(x, 0, 1);
        due("nobody yet", x.balance(0), 0);
        due("all", x.round(), 5);
        due("two of the first, three of the second", x.balance(0), -1);
        due("none by the other one", x.balance(1), 0);
        x.student(0, 0, 70, 0, 0);
        x.wish(5, 1);
        x.round();
        due("one by the other one, its first", x.balance(1), 1);
        due("as before", x.balance(0), -1);
    }

    private static void balanceOfDone() {
        sentence("(DONE ones count.)");
        StudentSwaps x = office(2);
        agree(x, 0, 1, "n2;b9;y0-1");
        for (int i = 0; i < 6; i++) {
            wisher(x, 0, 1);
        }
        wisher(x, 1, 0);
        due("this year", x.round(), 3);
        due("placed", x.balance(0), 1);
        x.year();
        due("done", x.balance(0), 1);
        x.round();
        due("done and placed", x.balance(0), 3);
        x.year();
        due("not in force any more", x.balance(0), 3);
        for (int y = 3; y <= 99; y++) {
            x.year();
        }
        due("in the last year", x.balance(0), 3);
    }

    private static void balanceOfOthers() {
        sentence("those of its first SCHOOL that were, or are, PLACED by it");
        StudentSwaps x = placedOne();
        x.round();
        due("two", x.balance(0), 2);
        x.out(1);
        due("who is out does not count", x.balance(0), 1);
        x.beds(1, 0);
        x.mend();
        due("nor who was moved", x.balance(0), 0);
        x.beds(1, 9);
        x.round();
        due("who is placed again does", x.balance(0), 1);
        x.year();
        x.round();
        due("once each", x.balance(0), 2);
    }

    private static void balanceAtItsWidest() {
        sentence("b and a number (0 to 99): how far the BALANCE may be from 0 (1 at first)");
        for (int first = 0; first < 2; first++) {
            StudentSwaps x = office(2);
            agree(x, first, 1 - first, "n9;b99");
            for (int i = 0; i < 16; i++) {
                wisher(x, 0, 1);
            }
            due("seven", x.round(), 7);
            due("two more", x.round(), 2);
            due("no bed", x.round(), 0);
            x.year();
            due("the others", x.round(), 7);
            due("sixteen one way", x.balance(0), first == 0 ? 16 : -16);
        }
        StudentSwaps y = office(2);
        agree(y, 0, 1, "n9");
        wisher(y, 0, 1);
        wisher(y, 0, 1);
        due("1 at first", y.round(), 1);
    }

    private static void noSuchBalance() {
        sentence("THE BALANCE of AGREEMENT x; 0 too if there is none such.");
        StudentSwaps x = placedOne();
        due("it is 1", x.balance(0), 1);
        for (int n : new int[] {-1, -2, 1, 11, 12, 256, Integer.MIN_VALUE, Integer.MAX_VALUE}) {
            due("none such " + n, x.balance(n), 0);
        }
    }

    private static void keptOfNothing() {
        sentence("Whether all bounds are KEPT: 1, 0.");
        due("of a new office", new StudentSwaps().kept(), 1);
        StudentSwaps x = office(2);
        agree(x, 0, 1, "n0;b0");
        x.beds(0, 0);
        x.beds(1, 0);
        wisher(x, 0, 1);
        due("of nobody who is placed", x.kept(), 1);
        due("nobody can be", x.round(), 0);
        due("still", x.kept(), 1);
    }

    /** How many are PLACED in this YEAR if n is so, and so many wish to go out and back. */
    private static int goBy(int n, int out, int back) {
        StudentSwaps x = office(2);
        agree(x, 0, 1, "b99;n" + n);
        for (int i = 0; i < out; i++) {
            wisher(x, 0, 1);
        }
        for (int i = 0; i < back; i++) {
            wisher(x, 1, 0);
        }
        int placed = x.round();
        for (int i = 0; i < out && i < 7; i++) {
            // who can't go makes room for those behind
            if (x.look(i, 0) == 0) {
                x.out(i);
            }
        }
        placed += x.round() + x.round();
        due("it is kept", x.kept(), 1);
        return placed;
    }

    private static void keptNumbers() {
        sentence("no more than n go either way this YEAR");
        for (int n = 0; n <= 7; n++) {
            due("out alone, " + n, goBy(n, 7, 0), n);
            due("back alone, " + n, goBy(n, 0, 7), n);
            due("either way, " + n, goBy(n, 7, 7), 2 * n);
        }
        due("nine of nine", goBy(9, 9, 0), 9);
        due("nine back", goBy(9, 0, 9), 9);
        due("nine and seven", goBy(9, 9, 7), 16);
        StudentSwaps x = office(2);
        agree(x, 0, 1, "n1;b9");
        wisher(x, 0, 1);
        wisher(x, 0, 1);
        wisher(x, 0, 1);
        due("one this year", x.round(), 1);
        due("no more", x.round(), 0);
        x.year();
        due("one more in the next", x.round(), 1);
        x.out(1);
        due("and one for who is out", x.round(), 1);
    }

    private static void keptBalance() {
        sentence("the BALANCE of each is not farther than b from 0");
        for (int b = 0; b <= 3; b++) {
            StudentSwaps x = office(2);
            agree(x, 0, 1, "n9;b" + b);
            for (int i = 0; i < 4; i++) {
                wisher(x, 0, 1);
            }
            for (int i = 0; i < 3; i++) {
                wisher(x, 1, 0);
            }
            due("b " + b, x.round(), b == 0 ? 6 : 7);
            for (int gone = 0; gone < 3; gone++) {
                x.out(4 + gone);
                due("b " + b + ", balance " + x.balance(0), x.kept(), x.balance(0) <= b ? 1 : 0);
            }
        }
    }

    private static void keptBalanceBelow() {
        sentence("how far the BALANCE may be from 0");
        for (int b = 0; b <= 3; b++) {
            StudentSwaps x = office(2);
            agree(x, 1, 0, "n9;b" + b);
            for (int i = 0; i < 4; i++) {
                wisher(x, 0, 1);
            }
            for (int i = 0; i < 3; i++) {
                wisher(x, 1, 0);
            }
            due("b " + b, x.round(), b == 0 ? 6 : 7);
            for (int gone = 0; gone < 3; gone++) {
                x.out(4 + gone);
                due("b " + b + ", balance " + x.balance(0), x.kept(), -x.balance(0) <= b ? 1 : 0);
            }
        }
    }

    private static void keptBeds() {
        sentence("no SCHOOL has more PLACED at it than BEDS");
        StudentSwaps x = office(8);
        agree(x, 0, 7, "n9;b9");
        agree(x, 6, 7, "n9;b9");
        wisher(x, 0, 7);
        wisher(x, 6, 7);
        wisher(x, 0, 7);
        x.round();
        for (int n = 0; n <= 9; n++) {
            x.beds(7, n);
            due("three and beds " + n, x.kept(), n >= 3 ? 1 : 0);
        }
        for (int h = 0; h < 7; h++) {
            x.beds(h, 0);
        }
        due("where nobody is, none are needed", x.kept(), 1);
        x.beds(7, 2);
        due("one too many", x.kept(), 0);
        x.out(1);
        due("who is out needs none", x.kept(), 1);
        x.beds(7, 0);
        x.year();
        due("nor who is done", x.kept(), 1);
    }

    private static void keptInForce() {
        sentence("KEPT are all bounds if of the PLACED (by each AGREEMENT IN FORCE this YEAR)");
        StudentSwaps x = office(2);
        agree(x, 0, 1, "n9;b0;y0-1");
        wisher(x, 0, 1);
        wisher(x, 1, 0);
        due("both", x.round(), 2);
        x.out(1);
        due("one is left", x.kept(), 0);
        x.year();
        due("in force, over years", x.kept(), 0);
        x.year();
        due("not in force", x.kept(), 1);
        due("its balance is as it was", x.balance(0), 1);
    }
}
