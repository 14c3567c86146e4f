/** Each sentence of the document's sixth part, and of promises 29 to 33, that names an edge. */
public final class YearsTest extends Asked {
    public static void main(String[] args) {
        year();
        lastYear();
        statesOverYears();
        factsAreForgotten();
        whatStays();
        owedAbove();
        owedBelow();
        owedInAll();
        owedMost();
        owedByNobody();
        look();
        lookOthers();
        about();
        aboutOthers();
        placedNow();
        count();
        countOfSchools();
        countOthers();
        end();
    }

    private static void year() {
        sentence("A YEAR goes by: which it is; NONE: it would be above 99.");
        StudentSwaps x = new StudentSwaps();
        for (int y = 1; y <= 99; y++) {
            due("which it is", x.year(), y);
            due("it is shown", x.count(0), y);
        }
        due("above 99", x.year(), NONE);
        due("again", x.year(), NONE);
        due("99", x.count(0), 99);
    }

    private static void lastYear() {
        sentence("NONE: it would be above 99");
        StudentSwaps x = placedOne();
        for (int y = 1; y <= 99; y++) {
            x.year();
        }
        x.round();
        x.fact(1, 0, 5, 6);
        wisher(x, 0, 1);
        x.out(2);
        due("no more", x.year(), NONE);
        due("placed ones are not done", x.look(1, 0), 1);
        due("out ones do not wait", x.look(2, 0), 2);
        due("facts are not forgotten", x.known(1, 0, 6), 5);
        due("nor how many", x.count(8), 1);
        due("nor the latest day", x.fact(1, 0, 5, 5), false);
    }

    private static void statesOverYears() {
        sentence("A YEAR goes by: those PLACED are DONE, those OUT are WAITING");
        StudentSwaps x = placedOne();
        x.out(1);
        wisher(x, 0);
        due("placed, out, waiting", x.look(0, 0) * 100 + x.look(1, 0) * 10 + x.look(2, 0), 120);
        x.year();
        due("done, waiting, waiting", x.look(0, 0) * 100 + x.look(1, 0) * 10 + x.look(2, 0), 300);
        for (int what = 1; what < 4; what++) {
            due("done: neither school, agreement nor wish", x.look(0, what), NONE);
        }
        x.year();
        due("as before", x.look(0, 0) * 100 + x.look(1, 0) * 10 + x.look(2, 0), 300);
        due("done ones are in no round", x.round(), 1);
        due("nor mended", x.mend(), 0);
        due("the other one is placed", x.look(1, 0), 1);
    }

    private static void factsAreForgotten() {
        sentence("FACTS are forgotten");
        StudentSwaps x = placedOne();
        for (int what = 0; what < 4; what++) {
            x.fact(0, what, 50, 300);
        }
        x.year();
        for (int what = 0; what < 4; what++) {
            due("forgotten", x.known(0, what, 359), NONE);
        }
        due("none is told", x.count(8), 0);
        x.round();
        due("of another one, from the first day on", x.fact(1, 0, 7, 0), true);
        due("known", x.known(1, 0, 0), 7);
        due("only that one", x.count(8), 1);
    }

    private static void whatStays() {
        sentence("A YEAR goes by");
        StudentSwaps x = placedOne();
        x.level(0, 2, 7);
        x.beds(1, 4);
        x.course(1, 1, 1, 0, 0);
        x.cancel(1, 0, true);
        x.had(0, 3, 0);
        x.feed(0, 0, 0, 0, 0);
        int turned = x.turn(0, 1, 4, 1);
        x.year();
        due("schools", x.count(1), 3);
        due("agreements", x.count(2), 1);
        due("students", x.count(3), 2);
        due("the tape", x.count(9), 20);
        due("beds", x.count(11), 4);
        due("courses", x.count(31), 1);
        due("cancelled", x.cancel(1, 0, true), false);
        due("levels", x.look(0, 22), 7);
        due("wishes", x.look(1, 10), 1);
        due("scales", x.turn(0, 1, 4, 1), turned);
        due("balance", x.balance(0), 1);
    }

    private static void owedAbove() {
        sentence("OWED by an AGREEMENT: p for each by which the BALANCE is above 0, to the second SCHOOL by the first one");
        StudentSwaps x = office(3);
        agree(x, 1, 0, "n9;b9;p25");
        for (int n = 1; n <= 5; n++) {
            wisher(x, 1, 0);
            x.round();
            due("the first owes", x.owed(1), -25 * n);
            due("the second gets", x.owed(0), 25 * n);
            due("another one neither", x.owed(2), 0);
        }
        wisher(x, 0, 1);
        x.round();
        due("one less", x.owed(1), -100);
        x.year();
        due("over years", x.owed(1), -100);
    }

    private static void owedBelow() {
        sentence("below 0: the other way");
        StudentSwaps x = office(3);
        agree(x, 1, 0, "n9;b9;p25;y0-0");
        for (int n = 1; n <= 5; n++) {
            wisher(x, 0, 1);
            x.round();
            due("the second owes", x.owed(0), -25 * n);
            due("the first gets", x.owed(1), 25 * n);
        }
        x.year();
        due("in force or not", x.owed(1), 125);
    }

    private static void owedInAll() {
        sentence("What a SCHOOL has to get in all: what is OWED to it less what it OWES.");
        StudentSwaps x = office(3);
        agree(x, 0, 1, "n9;b9;p100");
        agree(x, 1, 2, "n9;b9;p10");
        agree(x, 2, 0, "n9;b9;p1");
        agree(x, 0, 1, "n9;b9;p1000;(g>50)");
        wisher(x, 0, 1);
        wisher(x, 1, 2);
        wisher(x, 1, 2);
        wisher(x, 2, 0);
        wisher(x, 2, 0);
        wisher(x, 2, 0);
        due("all", x.round(), 6);
        due("0 gets 3, owes 100", x.owed(0), -97);
        due("1 gets 100, owes 20", x.owed(1), 80);
        due("2 gets 20, owes 3", x.owed(2), 17);
        x.out(0);
        due("balanced: nothing is owed", x.owed(0), 3);
        StudentSwaps y = placedOne();
        due("no pence for one", y.owed(0), 0);
        due("nor to the other one", y.owed(1), 0);
    }

    private static void owedMost() {
        sentence("p and a number (0 to 9999): pence for one (0 at first)");
        StudentSwaps x = office(2);
        agree(x, 0, 1, "n9;b99;p9999");
        for (int s = 0; s < 16; s++) {
            wisher(x, 0, 1);
        }
        x.round();
        x.round();
        x.year();
        x.round();
        due("sixteen", x.balance(0), 16);
        due("the first owes most", x.owed(0), -159984);
        due("the second gets it", x.owed(1), 159984);
    }

    private static void owedByNobody() {
        sentence("What SCHOOL h has to get in all, in pence; 0 too if there is no such one.");
        StudentSwaps x = office(2);
        agree(x, 0, 1, "n9;b9;p5");
        wisher(x, 0, 1);
        x.round();
        due("a school", x.owed(1), 5);
        for (int h : new int[] {-1, -2, 2, 7, 8, 256, Integer.MIN_VALUE, Integer.MAX_VALUE}) {
            due("no such one " + h, x.owed(h), 0);
        }
    }

    private static StudentSwaps shown() {
        StudentSwaps x = office(8);
        agree(x, 5, 7, "n9;b9;(g<9)");
        agree(x, 7, 5, "n9;b9");
        x.student(0, 0, 0, 0, 0);
        x.student(5, 7, 100, 99, 4095);
        for (int h : new int[] {0, 6, 7, 1}) {
            x.wish(1, h);
        }
        for (int tongue = 0; tongue < 4; tongue++) {
            x.level(1, tongue, 9 - tongue);
        }
        x.round();
        return x;
    }

    private static void look() {
        sentence("Of STUDENT s, what 0 the STATE, 1 the SCHOOL at which PLACED (NONE), 2 the AGREEMENT (NONE), 3 which WISH"
                + " that is (from 0 on; NONE), 4 HOME, 5 SUBJECT, 6 GRADE, 7 CREDITS, 8 NEEDS, 9 WISHES; 10 + i WISH i, 20"
                + " + i the LEVEL of TONGUE i (NONE).");
        StudentSwaps x = shown();
        long[] placed = {1, 7, 1, 2, 5, 7, 100, 99, 4095, 4, 0, 6, 7, 1};
        for (int what = 0; what < placed.length; what++) {
            due("placed, " + what, x.look(1, what), placed[what]);
        }
        for (int i = 0; i < 4; i++) {
            due("level " + i, x.look(1, 20 + i), 9 - i);
            due("no test " + i, x.look(0, 20 + i), NONE);
            due("no wish " + i, x.look(0, 10 + i), NONE);
        }
        long[] waiting = {0, NONE, NONE, NONE, 0, 0, 0, 0, 0, 0};
        for (int what = 0; what < waiting.length; what++) {
            due("waiting, " + what, x.look(0, what), waiting[what]);
        }
        x.out(1);
        long[] out = {2, NONE, NONE, NONE, 5, 7, 100, 99, 4095, 4, 0, 6, 7, 1};
        for (int what = 0; what < out.length; what++) {
            due("out, " + what, x.look(1, what), out[what]);
        }
        StudentSwaps y = shown();
        y.year();
        long[] done = {3, NONE, NONE, NONE, 5, 7, 100, 99, 4095, 4, 0, 6, 7, 1};
        for (int what = 0; what < done.length; what++) {
            due("done, " + what, y.look(1, what), done[what]);
        }
    }

    private static void lookOthers() {
        sentence("the LEVEL of TONGUE i (NONE). NONE for others.");
        StudentSwaps x = shown();
        for (int what : new int[] {-1, -10, -20, 14, 15, 16, 17, 18, 19, 24, 25, 29, 30, 100, 256, 1 << 16,
            Integer.MIN_VALUE, Integer.MIN_VALUE + 4, Integer.MAX_VALUE}) {
            due("what " + what, x.look(1, what), NONE);
        }
        takes("student, of two", 0, 1, n -> shown().look(n, 0) != NONE);
        for (int what = -30; what < 60; what++) {
            boolean isShown = what >= 0 && what < 14 || what >= 20 && what < 24;
            due("what " + what + " is shown", x.look(1, what) != NONE, isShown);
        }
        due("nobody is there", office(1).look(0, 0), NONE);
    }

    private static void about() {
        sentence("Of AGREEMENT x, what 0, 1 its SCHOOLS, 2 n, 3 b, 4 p, 5, 6 YEARS, 7 EXPRESSIONS, 8 those PLACED by it"
                + " now, 9 whether it is IN FORCE.");
        StudentSwaps x = office(8);
        agree(x, 7, 0, "n8;b97;p9998;y1-98;(g<5);(g<6);(g<7)");
        agree(x, 0, 7, "n0;b0;p0;y0-0");
        long[] first = {7, 0, 8, 97, 9998, 1, 98, 3, 0, 0};
        long[] second = {0, 7, 0, 0, 0, 0, 0, 0, 0, 1};
        for (int what = 0; what < 10; what++) {
            due("first, " + what, x.about(0, what), first[what]);
            due("second, " + what, x.about(1, what), second[what]);
        }
        for (int y = 1; y <= 99; y++) {
            x.year();
            due("first in force in " + y, x.about(0, 9), y <= 98 ? 1 : 0);
            due("second in force in " + y, x.about(1, 9), 0);
        }
    }

    private static void aboutOthers() {
        sentence("9 whether it is IN FORCE. NONE for others.");
        StudentSwaps x = placedOne();
        for (int what : new int[] {-1, -8, 10, 11, 18, 19, 256, 1 << 16, Integer.MIN_VALUE, Integer.MAX_VALUE}) {
            due("what " + what, x.about(0, what), NONE);
        }
        takes("agreement, of one", 0, 0, n -> placedOne().about(n, 9) == 1);
        takes("those placed by one", 0, 0, n -> placedOne().about(n, 8) == 1);
        takes("what", 0, 9, n -> placedOne().about(0, n) != NONE);
        due("none is there", office(2).about(0, 8), NONE);
    }

    private static void placedNow() {
        sentence("8 those PLACED by it now");
        StudentSwaps x = office(2);
        agree(x, 0, 1, "n9;b9");
        agree(x, 0, 1, "n9;b9");
        for (int s = 0; s < 3; s++) {
            wisher(x, 0, 1);
            wisher(x, 1, 0);
        }
        due("nobody yet", x.about(0, 8), 0);
        x.round();
        due("both ways", x.about(0, 8), 6);
        due("none by the other one", x.about(1, 8), 0);
        x.out(0);
        due("one is out", x.about(0, 8), 5);
        x.year();
        due("done ones are placed no more", x.about(0, 8), 0);
        x.round();
        due("one again", x.about(0, 8), 1);
    }

    private static void count() {
        sentence("0 the YEAR, 1 SCHOOLS, 2 AGREEMENTS, 3 STUDENTS, 4 WAITING, 5 PLACED, 6 OUT, 7 DONE, 8 FACTS told this"
                + " YEAR, 9 bytes of the tape");
        StudentSwaps x = office(7);
        agree(x, 0, 6, "n9;b9");
        for (int s = 0; s < 5; s++) {
            wisher(x, 0, 6);
        }
        x.round();
        x.year();
        for (int s = 0; s < 7; s++) {
            wisher(x, 0, 6);
        }
        x.beds(6, 4);
        x.round();
        x.out(9);
        x.out(10);
        x.fact(5, 0, 0, 0);
        x.fact(5, 0, 0, 0);
        x.fact(6, 0, 0, 0);
        x.feed(0, 0, 0, 0, 0);
        x.feed(0, 0, 0, 0, 0);
        long[] want = {1, 7, 1, 12, 1, 4, 2, 5, 3, 40};
        for (int what = 0; what < want.length; what++) {
            due("count " + what, x.count(what), want[what]);
        }
        StudentSwaps y = office(8);
        for (int i = 0; i < 12; i++) {
            agree(y, 0, 1, "n9;b99");
        }
        for (int s = 0; s < 16; s++) {
            wisher(y, 0, 1);
        }
        for (int i = 0; i < 4; i++) {
            y.feed(0, 0, 0, 0, 0);
        }
        long[] full = {0, 8, 12, 16, 16, 0, 0, 0, 0, 80};
        for (int what = 0; what < full.length; what++) {
            due("full, count " + what, y.count(what), full[what]);
        }
    }

    private static void countOfSchools() {
        sentence("10 + h BEDS of SCHOOL h, 20 + h those PLACED at it, 30 + h COURSES of it");
        StudentSwaps x = office(8);
        for (int h = 1; h < 8; h++) {
            agree(x, 0, h, "n9;b9");
            x.beds(h, h + 2);
            for (int c = 1; c < h; c++) {
                x.course(h, 0, 1, 0, 0);
            }
        }
        for (int s = 0; s < 7; s++) {
            wisher(x, 0, s < 3 ? 7 : s < 5 ? 4 : 1);
        }
        due("all", x.round(), 7);
        long[] placed = {0, 2, 0, 0, 2, 0, 0, 3};
        for (int h = 0; h < 8; h++) {
            due("beds of " + h, x.count(10 + h), h == 0 ? 9 : h + 2);
            due("placed at " + h, x.count(20 + h), placed[h]);
            due("courses of " + h, x.count(30 + h), Math.max(0, h - 1));
        }
        x.out(0);
        due("who is out is not placed at it", x.count(27), 2);
        x.year();
        due("nor who is done", x.count(27), 0);
    }

    private static void countOthers() {
        sentence("30 + h COURSES of it. NONE for others.");
        StudentSwaps x = office(8);
        for (int what = -50; what < 350; what++) {
            boolean isShown = what >= 0 && what <= 9 || what >= 10 && what < 40 && what % 10 < 8;
            due("count " + what + " is shown", x.count(what) != NONE, isShown);
        }
        for (int what : new int[] {18, 19, 28, 29, 38, 39, 40, -1, -10, 1 << 16, Integer.MIN_VALUE, Integer.MAX_VALUE}) {
            due("count " + what, office(8).count(what), NONE);
        }
        for (int n = 0; n < 8; n++) {
            StudentSwaps y = office(n);
            for (int h = 0; h < 8; h++) {
                due("of " + n + ", beds of " + h, y.count(10 + h), h < n ? 9 : NONE);
                due("of " + n + ", placed at " + h, y.count(20 + h), h < n ? 0 : NONE);
                due("of " + n + ", courses of " + h, y.count(30 + h), h < n ? 0 : NONE);
            }
        }
    }
}
