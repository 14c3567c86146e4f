/** Each sentence of the document's fifth part, and of promises 23 to 28, that names an edge. */
public final class FactsTest extends Asked {
    public static void main(String[] args) {
        facts();
        notPlaced();
        doNotGoBack();
        refusedTellsNothing();
        twoHundred();
        knownLast();
        ofOneDayTheLast();
        neverAgain();
        nothingTold();
        known();
        forgottenElsewhere();
        notForgotten();
        visaHad();
        visaForetold();
        visaNeverAsked();
        ownLand();
        visa();
        came();
        wentHome();
        bothEnds();
        there();
        earned();
        back();
        roundedDown();
        counts();
        crowded();
        crowdedRefused();
        end();
    }

    private static void facts() {
        sentence("A FACT (0 to 3) of STUDENT s, on a DAY (NONE: never), told on a DAY: true; false: no such ones, not"
                + " PLACED, told ahead of the latest one, 200 were told.");
        takes("student, one is placed", 0, 0, n -> placedOne().fact(n, 0, 0, 0));
        takes("what", 0, 3, n -> placedOne().fact(0, n, 0, 0));
        takes("day, or never", NONE, 359, n -> placedOne().fact(0, 3, n, 0));
        takes("told", 0, 359, n -> placedOne().fact(0, 3, 0, n));
        StudentSwaps x = office(8);
        for (int h = 1; h < 8; h++) {
            agree(x, 0, h, "n9;b99");
        }
        for (int s = 0; s < 16; s++) {
            wisher(x, 0, 1 + s % 7);
        }
        due("all are placed", x.round() + x.round() + x.round(), 16);
        for (int s = 0; s < 16; s++) {
            for (int what = 0; what < 4; what++) {
                due("of each", x.fact(s, what, 4 * s + what, 0), true);
            }
        }
        due("so many", x.count(8), 64);
        for (int s = 0; s < 16; s++) {
            for (int what = 0; what < 4; what++) {
                due("known of each", x.known(s, what, 0), 4 * s + what);
            }
        }
        due("of nobody", x.fact(16, 0, 0, 0), false);
    }

    private static void notPlaced() {
        sentence("FACTS of a STUDENT who is PLACED");
        StudentSwaps x = placedOne();
        due("placed", x.fact(0, 0, 1, 1), true);
        due("waiting", x.fact(1, 0, 1, 1), false);
        x.out(1);
        due("out", x.fact(1, 0, 1, 1), false);
        x.year();
        due("done", x.fact(0, 0, 1, 1), false);
        due("waiting again", x.fact(1, 0, 1, 1), false);
        due("none is told", x.count(8), 0);
        x.round();
        due("placed now", x.fact(1, 0, 1, 1), true);
        due("nobody is there", office(2).fact(0, 0, 0, 0), false);
    }

    private static void doNotGoBack() {
        sentence("told on DAYS of the YEAR that do not go back (over all)");
        StudentSwaps x = placedOne();
        x.round();
        due("first", x.fact(0, 0, 5, 10), true);
        due("the same day", x.fact(0, 0, 5, 10), true);
        due("ahead", x.fact(0, 0, 5, 9), false);
        due("of another fact", x.fact(0, 3, 5, 9), false);
        due("of another student", x.fact(1, 0, 5, 9), false);
        due("on the first day", x.fact(1, 0, 5, 0), false);
        due("a day later", x.fact(1, 0, 5, 11), true);
        due("ahead of that", x.fact(0, 0, 5, 10), false);
        due("the day itself may be any", x.fact(0, 0, 359, 11), true);
        due("also an earlier one", x.fact(0, 0, 0, 11), true);
        due("the last day", x.fact(0, 0, 0, 359), true);
        due("there again", x.fact(1, 0, 0, 359), true);
        due("no more ahead of it", x.fact(0, 0, 0, 358), false);
        x.out(0);
        x.out(1);
        x.year();
        x.round();
        due("a new year begins anew", x.fact(0, 0, 0, 0), true);
    }

    private static void refusedTellsNothing() {
        sentence("told ahead of the latest one");
        StudentSwaps x = placedOne();
        x.fact(0, 0, 7, 50);
        due("wrong day, told later", x.fact(0, 0, 360, 60), false);
        due("wrong fact, told later", x.fact(0, 4, 5, 60), false);
        due("not placed, told later", x.fact(1, 0, 5, 60), false);
        due("nobody, told later", x.fact(2, 0, 5, 60), false);
        due("told too late", x.fact(0, 0, 5, 360), false);
        due("the latest is as it was", x.fact(0, 1, 8, 50), true);
        due("what is known, too", x.known(0, 0, 359), 7);
        due("two were told", x.count(8), 2);
        x.out(0);
        x.round();
        due("another one", x.fact(1, 0, 9, 49), false);
        due("forgotten, it was told on that day all the same", x.fact(1, 0, 9, 50), true);
    }

    private static void twoHundred() {
        sentence("200 at most are told a YEAR");
        StudentSwaps x = placedOne();
        x.round();
        for (int i = 0; i < 200; i++) {
            due("one of 200", x.fact(i % 2, i % 4, i, i), true);
        }
        due("one more", x.fact(0, 0, 5, 200), false);
        due("never", x.fact(1, 3, NONE, 359), false);
        due("200", x.count(8), 200);
        due("the last is known", x.known(1, 3, 359), 199);
        due("the first is known", x.known(0, 0, 0), 0);
        x.out(0);
        due("forgotten ones were told", x.count(8), 200);
        due("so still one more", x.fact(1, 0, 5, 300), false);
        x.year();
        due("none this year", x.count(8), 0);
        x.round();
        for (int i = 0; i < 200; i++) {
            due("one of 200 again", x.fact(0, 3, 359 - i, 0), true);
        }
        due("one more again", x.fact(0, 3, 5, 0), false);
        due("the last of all", x.known(0, 3, 0), 160);
    }

    private static void knownLast() {
        sentence("KNOWN on a DAY: the one that was told last by then");
        StudentSwaps x = placedOne();
        x.fact(0, 2, 120, 10);
        x.fact(0, 2, 110, 20);
        x.fact(0, 2, 130, 359);
        for (int told = 0; told < 360; told++) {
            int want = told < 10 ? NONE : told < 20 ? 120 : told < 359 ? 110 : 130;
            due("known on " + told, x.known(0, 2, told), want);
        }
    }

    private static void ofOneDayTheLast() {
        sentence("(of one DAY the last)");
        StudentSwaps x = placedOne();
        x.fact(0, 1, 7, 5);
        x.fact(0, 1, 3, 5);
        x.fact(0, 0, 9, 5);
        x.fact(0, 1, 5, 5);
        x.fact(0, 2, 8, 5);
        due("the last of three", x.known(0, 1, 5), 5);
        due("of each of the four", x.known(0, 0, 5) * 10 + x.known(0, 2, 5), 98);
        due("nothing of the fourth", x.known(0, 3, 5), NONE);
        due("ahead of that day", x.known(0, 1, 4), NONE);
    }

    private static void neverAgain() {
        sentence("each on a DAY, or never");
        StudentSwaps x = placedOne();
        x.fact(0, 2, 100, 1);
        x.fact(0, 2, NONE, 2);
        due("it was on a day", x.known(0, 2, 1), 100);
        due("it was never", x.known(0, 2, 2), NONE);
        due("there", x.there(1, 150, 1), 1);
        due("not there", x.there(1, 150, 2), 0);
        x.fact(0, 2, 0, 3);
        due("it was, on the first day", x.known(0, 2, 3), 0);
        x.fact(0, 3, 140, 3);
        x.fact(0, 3, NONE, 4);
        due("went home", x.there(1, 150, 3), 0);
        due("never went home", x.there(1, 150, 4), 1);
    }

    private static void nothingTold() {
        sentence("nothing told: never");
        StudentSwaps x = placedOne();
        for (int what = 0; what < 4; what++) {
            due("placed, " + what, x.known(0, what, 359), NONE);
            due("waiting, " + what, x.known(1, what, 0), NONE);
        }
    }

    private static StudentSwaps toldAll() {
        StudentSwaps x = placedOne();
        for (int what = 0; what < 4; what++) {
            x.fact(0, what, 10 + what, 0);
        }
        return x;
    }

    private static void known() {
        sentence("The DAY of a FACT (0 to 3) as KNOWN on a DAY; NONE: never, no such ones.");
        takes("student", 0, 0, n -> toldAll().known(n, 0, 359) == 10);
        takes("what", 0, 3, n -> toldAll().known(0, n, 359) == 10 + n);
        takes("told", 0, 359, n -> toldAll().known(0, 3, n) == 13);
        due("nobody is there", office(2).known(0, 0, 0), NONE);
    }

    private static void forgottenElsewhere() {
        sentence("those of a STUDENT who is at another SCHOOL then, or at none, are forgotten");
        StudentSwaps x = placedOne();
        agree(x, 0, 2, "n9;b9");
        x.wish(1, 2);
        x.round();
        x.fact(0, 0, 5, 5);
        x.fact(1, 0, 6, 5);
        x.fact(1, 2, 7, 5);
        x.beds(1, 1);
        due("one is at another school", x.mend(), 1);
        due("the second", x.look(1, 1), 2);
        due("its facts are forgotten", x.known(1, 0, 359), NONE);
        due("all of them", x.known(1, 2, 359), NONE);
        due("another's are not", x.known(0, 0, 359), 5);
        x.beds(1, 0);
        due("one is at none", x.mend(), 1);
        due("they are forgotten, too", x.known(0, 0, 359), NONE);
        x.beds(1, 9);
        due("placed there again", x.round(), 1);
        due("still forgotten", x.known(0, 0, 359), NONE);
        x.fact(0, 0, 8, 5);
        due("told anew", x.known(0, 0, 359), 8);
        x.out(0);
        due("out, and forgotten", x.known(0, 0, 359), NONE);
        due("told were four all the same", x.count(8), 4);
    }

    private static void notForgotten() {
        sentence("who is at another SCHOOL then, or at none");
        StudentSwaps x = toldAll();
        x.round();
        x.mend();
        x.beds(1, 2);
        x.level(0, 1, 9);
        x.out(1);
        x.mend();
        for (int what = 0; what < 4; what++) {
            due("who stays keeps them, " + what, x.known(0, what, 0), 10 + what);
        }
        x.year();
        for (int what = 0; what < 4; what++) {
            due("not over years, " + what, x.known(0, what, 359), NONE);
        }
    }

    /** IN TIME of one PLACED in TERM 100 to 199 (VISA 10 to 30 DAYS), asked and had on these DAYS. */
    private static int inTime(int asked, int had) {
        StudentSwaps x = placedOne();
        x.fact(0, 0, asked, 0);
        x.fact(0, 1, had, 0);
        return x.visa(0, 0);
    }

    private static void visaHad() {
        sentence("IN TIME: 2 it was had by the first DAY of TERM");
        for (int had = 0; had < 360; had++) {
            due("had on " + had, inTime(80, had), had <= 100 ? 2 : 0);
            due("had on " + had + ", asked too late", inTime(95, had), had <= 100 ? 2 : 0);
            due("had on " + had + ", never asked", inTime(NONE, had), had <= 100 ? 2 : 0);
        }
        sentence("0 it was had behind it");
        due("the day behind it", inTime(80, 101), 0);
        due("though foretold in time", inTime(70, 101), 0);
    }

    private static void visaForetold() {
        sentence("or the later of the two is not behind it");
        for (int asked = 0; asked < 360; asked++) {
            due("asked on " + asked, inTime(asked, NONE), asked <= 70 ? 2 : asked <= 90 ? 1 : 0);
        }
        sentence("(not had) the earlier one is behind it, or it was never asked; else 1");
        due("the earlier one is the first day", inTime(90, NONE), 1);
        due("the earlier one is the day behind it", inTime(91, NONE), 0);
        due("the later one is the day behind it", inTime(71, NONE), 1);
    }

    private static void visaNeverAsked() {
        sentence("or it was never asked");
        due("never asked, never had", inTime(NONE, NONE), 0);
        due("nothing told", placedOne().visa(0, 359), 0);
        StudentSwaps x = placedOne();
        x.land(1, 0, 0);
        due("however quick", x.visa(0, 359), 0);
        x.fact(0, 0, 0, 10);
        due("not known yet", x.visa(0, 9), 0);
        due("known", x.visa(0, 10), 2);
        x.fact(0, 0, NONE, 11);
        due("not asked after all", x.visa(0, 11), 0);
    }

    private static void ownLand() {
        sentence("(A LAND that is HOME's own needs none: 2.)");
        for (int land = 0; land < 4; land++) {
            StudentSwaps x = new StudentSwaps();
            for (int h = 0; h < 4; h++) {
                x.school(h == 0 ? land : h, 0, 9, 0, 100, 199, 0);
            }
            for (int h = 1; h < 4; h++) {
                agree(x, 0, h, "n9;b9");
                wisher(x, 0, h);
            }
            x.round();
            for (int s = 0; s < 3; s++) {
                due("from " + land + " to " + (s + 1), x.visa(s, 0), land == s + 1 ? 2 : 0);
                x.fact(s, 1, 300, 0);
                due("had too late", x.visa(s, 0), land == s + 1 ? 2 : 0);
            }
        }
    }

    private static void visa() {
        sentence("IN TIME as KNOWN on a DAY; NONE: not PLACED, no such ones.");
        takes("student, one is placed", 0, 0, n -> placedOne().visa(n, 0) == 0);
        takes("told", 0, 359, n -> placedOne().visa(0, n) == 0);
        StudentSwaps x = placedOne();
        x.out(1);
        due("out", x.visa(1, 0), NONE);
        x.year();
        due("done", x.visa(0, 0), NONE);
        due("waiting", x.visa(1, 0), NONE);
        due("nobody is there", office(2).visa(0, 0), NONE);
    }

    /** Whether one PLACED in TERM 100 to 199 who came and went on these DAYS is THERE on a DAY. */
    private static int isThere(int came, int went, int day) {
        StudentSwaps x = placedOne();
        x.fact(0, 2, came, 0);
        x.fact(0, 3, went, 0);
        return x.there(1, day, 0);
    }

    private static void came() {
        sentence("who came by it");
        due("the day ahead", isThere(150, NONE, 149), 0);
        due("the day itself", isThere(150, NONE, 150), 1);
        due("the day behind", isThere(150, NONE, 151), 1);
        due("never came", isThere(NONE, NONE, 150), 0);
        due("never came, never went", isThere(NONE, 180, 150), 0);
        due("on the first day of the year", isThere(0, NONE, 100), 1);
        due("on the last day of the term", isThere(199, NONE, 199), 1);
        due("behind the term", isThere(200, NONE, 200), 0);
    }

    private static void wentHome() {
        sentence("did not go home by it (or ahead of it)");
        due("the day ahead", isThere(100, 150, 149), 1);
        due("the day itself", isThere(100, 150, 150), 0);
        due("the day behind", isThere(100, 150, 151), 0);
        due("came and went on one day", isThere(150, 150, 150), 0);
        due("went ahead of coming", isThere(150, 120, 160), 0);
        due("went ahead of coming, and in between", isThere(150, 120, 130), 0);
        due("went on the first day of the year", isThere(0, 0, 100), 0);
        due("went on the last day of the term", isThere(0, 199, 198) * 10 + isThere(0, 199, 199), 10);
        due("went behind the term", isThere(0, 200, 199), 1);
        due("went on the last day of the year", isThere(0, 359, 199), 1);
    }

    private static void bothEnds() {
        sentence("the DAY lies in the SCHOOL's TERM (both ends too)");
        StudentSwaps x = placedOne();
        x.fact(0, 2, 0, 0);
        for (int day = 0; day < 360; day++) {
            due("on " + day, x.there(1, day, 0), day >= 100 && day <= 199 ? 1 : 0);
        }
        StudentSwaps y = new StudentSwaps();
        y.school(0, 0, 9, 0, 0, 359, 0);
        y.school(0, 0, 9, 0, 358, 359, 0);
        agree(y, 0, 1, "n1");
        wisher(y, 0, 1);
        wisher(y, 1, 0);
        y.round();
        y.fact(0, 2, 0, 0);
        y.fact(1, 2, 0, 0);
        due("the shortest term", y.there(1, 357, 0) * 100 + y.there(1, 358, 0) * 10 + y.there(1, 359, 0), 11);
        due("the longest term", y.there(0, 0, 0) * 10 + y.there(0, 359, 0), 11);
    }

    private static void there() {
        sentence("How many are THERE at SCHOOL h on a DAY as KNOWN on another one; NONE: no such ones.");
        takes("school, of three", 0, 2, n -> placedOne().there(n, 150, 0) == 0);
        takes("day", 0, 359, n -> placedOne().there(1, n, 0) == 0);
        takes("told", 0, 359, n -> placedOne().there(1, 150, n) == 0);
        StudentSwaps x = office(2);
        agree(x, 0, 1, "n9;b9");
        for (int s = 0; s < 9; s++) {
            wisher(x, 0, 1);
        }
        x.round();
        x.round();
        for (int s = 0; s < 9; s++) {
            x.fact(s, 2, 110 + s, s);
        }
        for (int n = 0; n <= 10; n++) {
            due("came by then", x.there(1, 109 + n, 359), Math.min(n, 9));
            due("known by then", n == 0 ? 0 : x.there(1, 199, n - 1), Math.min(n, 9));
        }
        due("not at home", x.there(0, 150, 359), 0);
        x.out(4);
        due("who is out is not there", x.there(1, 150, 359), 8);
        x.year();
        due("nor who is done", x.there(1, 150, 359), 0);
        due("no school is there", new StudentSwaps().there(0, 0, 0), NONE);
    }

    /** EARNED, or BACK, of one with a STUDY of 9 CREDITS and a FEE at HOME, in a TERM 10 to 10 + days - 1. */
    private static int counted(int what, int fee, int days, int came, int went) {
        StudentSwaps x = new StudentSwaps();
        x.school(0, 0, 9, 0, 0, 9, fee);
        x.school(1, 0, 9, 0, 10, 9 + days, 7);
        agree(x, 0, 1, "n1");
        x.student(0, 0, 0, 0, 1);
        x.wish(0, 1);
        x.course(1, 1, 9, 0, 0);
        x.round();
        x.fact(0, 2, came, 0);
        x.fact(0, 3, went, 0);
        return x.counts(0, what, 0);
    }

    private static void earned() {
        sentence("EARNED as KNOWN on a DAY: THE STUDY's CREDITS times DAYS on which they were THERE through the DAYS of the"
                + " TERM, rounded down.");
        for (int days = 2; days <= 20; days++) {
            for (int there = 0; there <= days; there++) {
                int want = 9 * there / days;
                due("the first " + there + " of " + days, counted(0, 5, days, 0, 10 + there), want);
                due("the last " + there + " of " + days, counted(0, 5, days, 10 + days - there, NONE), want);
            }
        }
        due("never came", counted(0, 5, 7, NONE, NONE), 0);
        due("came too late", counted(0, 5, 7, 17, NONE), 0);
        due("went too early", counted(0, 5, 7, 0, 10), 0);
        due("went ahead of coming", counted(0, 5, 7, 14, 12), 0);
        due("350 days", counted(0, 5, 350, 0, 359), 8);
        due("all of 350 days", counted(0, 5, 350, 0, NONE), 9);
        StudentSwaps x = placedOne();
        x.fact(0, 2, 0, 0);
        due("without a study", x.counts(0, 0, 0), 0);
    }

    private static void back() {
        sentence("BACK: the HOME's FEE times DAYS of the SCHOOL's TERM on which they were not THERE through its DAYS,"
                + " rounded down.");
        for (int days = 2; days <= 20; days++) {
            for (int there = 0; there <= days; there++) {
                int want = 99999 * (days - there) / days;
                due("all but the first " + there + " of " + days, counted(1, 99999, days, 0, 10 + there), want);
                due("all but the last " + there + " of " + days, counted(1, 99999, days, 10 + days - there, NONE), want);
            }
        }
        due("never came", counted(1, 99999, 350, NONE, NONE), 99999);
        due("always there", counted(1, 99999, 350, 0, NONE), 0);
        due("one day of 350", counted(1, 99999, 350, 0, 359), 285);
        due("no fee", counted(1, 0, 350, NONE, NONE), 0);
    }

    private static void roundedDown() {
        sentence("through its DAYS, rounded down");
        due("less than one", counted(1, 1, 2, 11, NONE), 0);
        due("just one", counted(1, 2, 2, 11, NONE), 1);
        due("nearly two", counted(1, 3, 2, 11, NONE), 1);
        due("nearly one credit", counted(0, 0, 10, 0, 11), 0);
        due("just one credit", counted(0, 0, 9, 0, 11), 1);
    }

    private static void counts() {
        sentence("EARNED (what 0), or BACK (1), of STUDENT s as KNOWN on a DAY; NONE: not PLACED, others.");
        takes("student, one is placed", 0, 0, n -> placedOne().counts(n, 1, 0) == 1000);
        takes("what", 0, 1, n -> placedOne().counts(0, n, 0) == 1000 * n);
        takes("told", 0, 359, n -> placedOne().counts(0, 1, n) == 1000);
        StudentSwaps x = placedOne();
        x.fact(0, 2, 150, 10);
        due("ahead of what was told", x.counts(0, 1, 9), 1000);
        due("as told", x.counts(0, 1, 10), 500);
        x.out(1);
        due("out", x.counts(1, 0, 0), NONE);
        x.year();
        due("done", x.counts(0, 0, 0), NONE);
        due("waiting", x.counts(1, 0, 0), NONE);
        due("nobody is there", office(2).counts(0, 0, 0), NONE);
    }

    private static void crowded() {
        sentence("CROWDED is a SCHOOL as KNOWN on a DAY from the first DAY on which more are THERE than BEDS.");
        StudentSwaps x = office(2);
        agree(x, 0, 1, "n9;b9");
        for (int s = 0; s < 9; s++) {
            wisher(x, 0, 1);
        }
        x.round();
        x.round();
        for (int s = 0; s < 9; s++) {
            x.fact(s, 2, 110 + s, s);
        }
        for (int n = 0; n <= 9; n++) {
            x.beds(1, n);
            due("beds " + n, x.crowded(1, 359), n < 9 ? 110 + n : NONE);
            due("not known yet", x.crowded(1, Math.max(0, n - 1)), n == 0 ? 110 : NONE);
        }
        x.beds(1, 4);
        x.fact(0, 3, 114, 20);
        due("one goes when the fifth comes", x.crowded(1, 20), 115);
        x.fact(8, 2, 90, 21);
        due("one comes ahead of the term", x.crowded(1, 21), 113);
        x.fact(7, 2, 90, 22);
        x.beds(1, 1);
        due("from the term's first day on", x.crowded(1, 22), 100);
        x.beds(1, 0);
        due("not ahead of it", x.crowded(1, 22), 100);
        for (int s = 0; s < 9; s++) {
            x.fact(s, 2, s == 3 ? 199 : 200, 30);
        }
        due("on the last day", x.crowded(1, 30), 199);
        x.fact(3, 2, 200, 31);
        due("not behind the term", x.crowded(1, 31), NONE);
    }

    private static void crowdedRefused() {
        sentence("From which DAY on SCHOOL h is CROWDED as KNOWN on a DAY; NONE: never, no such ones.");
        takes("school", 1, 1, n -> crowdedOne().crowded(n, 0) == 100);
        takes("told", 0, 359, n -> crowdedOne().crowded(1, n) == 100);
        due("never", placedOne().crowded(1, 359), NONE);
        due("no school is there", new StudentSwaps().crowded(0, 0), NONE);
        StudentSwaps x = crowdedOne();
        x.out(0);
        due("who is out does not crowd it", x.crowded(1, 0), NONE);
    }

    private static StudentSwaps crowdedOne() {
        StudentSwaps x = placedOne();
        x.fact(0, 2, 0, 0);
        x.beds(1, 0);
        return x;
    }
}
