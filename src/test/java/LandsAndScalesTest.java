/** Each sentence of the document's first part, and of promises 1 to 6, that names an edge. */
public final class LandsAndScalesTest extends Asked {
    private static final int FAR = 1 << 20;

    public static void main(String[] args) {
        firstYear();
        noSchools();
        nothingIsThere();
        lands();
        daysOfVisa();
        daysOfVisaAtFirst();
        longestVisa();
        scales();
        hadAtFirst();
        spans();
        markThatNobodyHad();
        middle();
        border();
        upperEnd();
        doubt();
        doubtOfNobody();
        cannotBeTurned();
        turnRefused();
        largestScales();
        days();
        schools();
        termRefused();
        eightSchools();
        beds();
        end();
    }

    private static void firstYear() {
        sentence("It is a YEAR (0 at first, to 99)");
        StudentSwaps x = new StudentSwaps();
        due("the first", x.count(0), 0);
        for (int y = 1; y <= 99; y++) {
            due("the next", x.year(), y);
        }
        due("the last", x.count(0), 99);
        due("a hundredth", x.year(), NONE);
        due("still the last", x.count(0), 99);
    }

    private static void noSchools() {
        sentence("`StudentSwaps()`: YEAR 0; no SCHOOLS.");
        StudentSwaps x = new StudentSwaps();
        for (int what = 0; what <= 9; what++) {
            due("count " + what, x.count(what), 0);
        }
        for (int h = 0; h < 8; h++) {
            due("beds", x.count(10 + h), NONE);
            due("placed", x.count(20 + h), NONE);
            due("courses", x.count(30 + h), NONE);
        }
    }

    /** Where nothing is, each call that names something is refused. */
    private static void nothingIsThere() {
        sentence("`NONE = -1`: There is none.");
        due("the constant", StudentSwaps.NONE, -1);
        StudentSwaps x = new StudentSwaps();
        x.feed(word("n1", 0), 0, 0, 0, 0);
        due("beds", x.beds(0, 1), false);
        due("agreement", x.agreement(0, 1, 2), NONE);
        due("meets", x.meets(0, 0, 0, 0, 0), NONE);
        due("terms", x.terms(0, 0, 0), NONE);
        due("student", x.student(0, 0, 0, 0, 0), NONE);
        due("level", x.level(0, 0, 0), false);
        due("wish", x.wish(0, 0), false);
        due("may", x.may(0, 0), NONE);
        due("round", x.round(), 0);
        due("out", x.out(0), false);
        due("mend", x.mend(), 0);
        due("kept", x.kept(), 1);
        due("balance", x.balance(0), 0);
        due("course", x.course(0, 0, 1, 0, 0), NONE);
        due("cancel", x.cancel(0, 0, true), false);
        due("study", x.study(0, 0, 0), NONE);
        due("fact", x.fact(0, 0, 0, 0), false);
        due("known", x.known(0, 0, 0), NONE);
        due("visa", x.visa(0, 0), NONE);
        due("there", x.there(0, 0, 0), NONE);
        due("counts", x.counts(0, 0, 0), NONE);
        due("crowded", x.crowded(0, 0), NONE);
        due("owed", x.owed(0), 0);
        due("look", x.look(0, 0), NONE);
        due("about", x.about(0, 0), NONE);
        due("the tape", x.count(9), 20);
    }

    private static void lands() {
        sentence("LANDS 0 to 3");
        takes("land of a visa", 0, 3, l -> new StudentSwaps().land(l, 1, 2));
        takes("land of a school", 0, 3, l -> new StudentSwaps().school(l, 0, 0, 0, 0, 1, 0) == 0);
    }

    private static void daysOfVisa() {
        sentence("DAYS of a VISA of a LAND: true; false: no such ones (the second below the first).");
        takes("least", 0, 200, n -> new StudentSwaps().land(1, n, 200));
        takes("most", 0, 200, n -> new StudentSwaps().land(1, 0, n));
        takes("most, from 77 on", 77, 200, n -> new StudentSwaps().land(1, 77, n));
        takes("least, up to 77", 0, 77, n -> new StudentSwaps().land(1, n, 77));
        due("both beyond", new StudentSwaps().land(1, 201, 201), false);
        due("both below", new StudentSwaps().land(1, -1, -1), false);
        due("turned round", new StudentSwaps().land(1, 200, 0), false);
    }

    /** One of SCHOOL 0 (another LAND) PLACED at SCHOOL 1 (this LAND) whose TERM begins on this DAY. */
    private static StudentSwaps visitorOf(int land, int from) {
        StudentSwaps x = new StudentSwaps();
        x.school((land + 1) % 4, 0, 1, 0, 0, 359, 0);
        x.school(land, 0, 1, 0, from, 359, 0);
        agree(x, 0, 1, "n1");
        wisher(x, 0, 1);
        x.round();
        return x;
    }

    private static int visaAsked(StudentSwaps x, int day) {
        due("it is told", x.fact(0, 0, day, 0), true);
        return x.visa(0, 0);
    }

    private static void daysOfVisaAtFirst() {
        sentence("a VISA takes from a number of DAYS to another one (0 to 200; 10 and 30 at first)");
        for (int land = 0; land < 4; land++) {
            StudentSwaps x = visitorOf(land, 100);
            due("30 days ahead", visaAsked(x, 70), 2);
            due("29 days ahead", visaAsked(x, 71), 1);
            due("10 days ahead", visaAsked(x, 90), 1);
            due("9 days ahead", visaAsked(x, 91), 0);
            x.land(land, 0, 0);
            due("at once", visaAsked(x, 100), 2);
            due("at once, but too late", visaAsked(x, 101), 0);
            for (int other = 0; other < 4; other++) {
                if (other != land) {
                    x.land(other, 200, 200);
                }
            }
            due("another land's days do not count", visaAsked(x, 100), 2);
        }
    }

    private static void longestVisa() {
        sentence("FORETOLD of the VISA as KNOWN on a DAY: from the DAY on which it was asked and the LAND's first"
                + " number to that and the second one (SCHOOL's LAND).");
        StudentSwaps x = visitorOf(2, 200);
        x.land(2, 200, 200);
        due("just in time", visaAsked(x, 0), 2);
        due("a day too late", visaAsked(x, 1), 0);
        x.land(2, 0, 200);
        due("200 at most", visaAsked(x, 0), 2);
        due("201 at most", visaAsked(x, 1), 1);
        due("on the day itself", visaAsked(x, 200), 1);
        due("behind it", visaAsked(x, 201), 0);
        StudentSwaps y = visitorOf(2, 5);
        y.land(2, 10, 10);
        due("days do not go round with the year", visaAsked(y, 355), 0);
        y.land(2, 1, 200);
        due("nor the longest", visaAsked(y, 165), 0);
        due("nor the last", visaAsked(y, 359), 0);
    }

    private static void scales() {
        sentence("How many had a MARK of a SCALE: true; false: no such ones.");
        takes("scale", 0, 3, n -> new StudentSwaps().had(n, 0, 1));
        takes("mark", 0, 10, n -> new StudentSwaps().had(3, n, 1));
        takes("how many", 0, 999, n -> new StudentSwaps().had(0, 10, n));
    }

    private static void hadAtFirst() {
        sentence("SCALES 0 to 3 have MARKS 0 to 10, and of each how many had it (0 to 999; 1 at first).");
        StudentSwaps x = new StudentSwaps();
        for (int from = 0; from < 4; from++) {
            for (int m = 0; m <= 10; m++) {
                for (int what = 0; what < 3; what++) {
                    due("alike " + m, x.turn(from, (from + 1) % 4, m, what), m);
                }
            }
        }
        // 999 of 1009 had the last: it alone is all but the lowest hundredth part
        due("999", x.had(2, 10, 999), true);
        due("nearly all are the last", x.turn(0, 2, 1, 0), 10);
        due("the first has still some below", x.turn(0, 2, 0, 1), 0);
    }

    /** A SCALE on which only these two MARKS were had, by so many. */
    private static void onlyTwo(StudentSwaps x, int scale, int a, int hadA, int b, int hadB) {
        for (int m = 0; m <= 10; m++) {
            x.had(scale, m, m == a ? hadA : m == b ? hadB : 0);
        }
    }

    private static void spans() {
        sentence("the part from BELOW / ALL to (BELOW and HERE) / ALL");
        StudentSwaps x = new StudentSwaps();
        onlyTwo(x, 0, 0, 1, 10, 2);
        onlyTwo(x, 1, 0, 2, 10, 1);
        // scale 0: 0 has 0 to 1/3, 10 has 1/3 to 1; scale 1: 0 has 0 to 2/3, 10 has 2/3 to 1
        due("the first", x.turn(0, 1, 0, 0), 0);
        due("the first's greatest", x.turn(0, 1, 0, 2), 0);
        due("the last, on the border", x.turn(0, 1, 10, 0), 10);
        due("the last's least", x.turn(0, 1, 10, 1), 0);
        due("back, on the border", x.turn(1, 0, 0, 0), 10);
        due("back, its least", x.turn(1, 0, 0, 1), 0);
        due("back, its greatest", x.turn(1, 0, 0, 2), 10);
        due("back, the last's least", x.turn(1, 0, 10, 1), 10);
    }

    private static void markThatNobodyHad() {
        sentence("(A MARK that nobody had has none.)");
        StudentSwaps x = new StudentSwaps();
        onlyTwo(x, 1, 3, 5, 7, 5);
        for (int m = 0; m <= 10; m++) {
            due("turned " + m, x.turn(0, 1, m, 0), m < 5 ? 3 : 7);
            due("least of " + m, x.turn(0, 1, m, 1), m < 6 ? 3 : 7);
            due("greatest of " + m, x.turn(0, 1, m, 2), m < 5 ? 3 : 7);
        }
    }

    private static void middle() {
        sentence("THE MIDDLE is (2 BELOW and HERE) / (2 ALL), also if HERE is 0");
        StudentSwaps x = new StudentSwaps();
        onlyTwo(x, 0, 2, 1, 8, 3);
        onlyTwo(x, 1, 0, 2, 10, 6);
        due("nobody, at the lower end", x.turn(0, 1, 0, 0), 0);
        due("an eighth", x.turn(0, 1, 2, 0), 0);
        due("nobody, a quarter", x.turn(0, 1, 5, 0), 10);
        due("five eighths", x.turn(0, 1, 8, 0), 10);
        onlyTwo(x, 1, 0, 501, 10, 499);
        due("an eighth, finer", x.turn(0, 1, 2, 0), 0);
        due("nobody, a quarter, finer", x.turn(0, 1, 5, 0), 0);
        onlyTwo(x, 1, 0, 251, 10, 749);
        due("just above a quarter", x.turn(0, 1, 5, 0), 0);
        onlyTwo(x, 1, 0, 250, 10, 750);
        due("a quarter", x.turn(0, 1, 5, 0), 10);
    }

    private static void border() {
        sentence("the MARK in whose SPAN of the other SCALE it lies, on a border the higher one");
        StudentSwaps x = new StudentSwaps();
        onlyTwo(x, 0, 4, 1, 6, 1);
        onlyTwo(x, 1, 1, 1, 2, 3);
        due("a quarter is a border", x.turn(0, 1, 4, 0), 2);
        onlyTwo(x, 1, 1, 3, 9, 1);
        due("three quarters are one", x.turn(0, 1, 6, 0), 9);
        due("within", x.turn(0, 1, 4, 0), 1);
        onlyTwo(x, 1, 1, 1, 9, 1);
        due("nobody's middle is one", x.turn(0, 1, 5, 0), 9);
        onlyTwo(x, 0, 5, 7, 5, 7);
        due("all had one mark", x.turn(0, 1, 5, 0), 9);
        due("the lower end is the lowest that somebody had", x.turn(0, 1, 0, 0), 1);
    }

    private static void upperEnd() {
        sentence("if it is the upper end of all, the highest that somebody had");
        StudentSwaps x = new StudentSwaps();
        x.had(0, 10, 0);
        for (int highest = 10; highest >= 0; highest--) {
            due("the highest", x.turn(0, 1, 10, 0), highest);
            x.had(1, highest, 0);
        }
        due("nobody had one", x.turn(0, 1, 10, 0), NONE);
    }

    private static void doubt() {
        sentence("the least and the greatest MARK of the other SCALE whose SPAN has more than a point in common"
                + " with that of the MARK");
        StudentSwaps x = new StudentSwaps();
        onlyTwo(x, 0, 4, 1, 6, 1);
        for (int m = 0; m <= 10; m++) {
            x.had(1, m, m >= 2 && m <= 5 ? 1 : 0);
        }
        // a quarter each: 2, 3 | 4, 5
        due("lower half's least", x.turn(0, 1, 4, 1), 2);
        due("lower half's greatest, 4 has but a point", x.turn(0, 1, 4, 2), 3);
        due("upper half's least, 3 has but a point", x.turn(0, 1, 6, 1), 4);
        due("upper half's greatest", x.turn(0, 1, 6, 2), 5);
        x.had(0, 4, 501);
        x.had(0, 6, 499);
        due("a little more in common", x.turn(0, 1, 4, 2), 4);
        due("the other has still its own", x.turn(0, 1, 6, 1), 4);
        x.had(0, 4, 499);
        x.had(0, 6, 501);
        due("a little less", x.turn(0, 1, 4, 2), 3);
        due("the other has a little more", x.turn(0, 1, 6, 1), 3);
        due("the whole span's least", x.turn(1, 0, 3, 1), 4);
        due("over the border", x.turn(1, 0, 3, 2), 6);
    }

    private static void doubtOfNobody() {
        sentence("(if HERE is 0: both are the MARK into which it is turned)");
        StudentSwaps x = new StudentSwaps();
        onlyTwo(x, 0, 4, 1, 6, 1);
        onlyTwo(x, 1, 1, 1, 9, 1);
        int[] turned = {1, 1, 1, 1, 1, 9, 9, 9, 9, 9, 9};
        for (int m : new int[] {0, 1, 2, 3, 5, 7, 8, 9, 10}) {
            for (int what = 0; what < 3; what++) {
                due("nobody had " + m + ", what " + what, x.turn(0, 1, m, what), turned[m]);
            }
        }
    }

    private static void cannotBeTurned() {
        sentence("It can't be turned if ALL is 0 in one of the two.");
        StudentSwaps x = new StudentSwaps();
        onlyTwo(x, 2, 0, 0, 0, 0);
        for (int what = 0; what < 3; what++) {
            for (int m = 0; m <= 10; m++) {
                due("from", x.turn(2, 0, m, what), NONE);
                due("to", x.turn(0, 2, m, what), NONE);
            }
        }
        onlyTwo(x, 0, 0, 0, 0, 0);
        due("both", x.turn(0, 2, 5, 0), NONE);
        due("two others can", x.turn(1, 3, 5, 0), 5);
        x.had(0, 0, 1);
        x.had(2, 10, 1);
        due("one in each is enough", x.turn(0, 2, 5, 0), 10);
    }

    private static void turnRefused() {
        sentence("TO TURN a MARK, what 0 the MARK, 1 the least, 2 the greatest of ITS DOUBT; NONE: it can't be,"
                + " no such ones.");
        StudentSwaps x = new StudentSwaps();
        takes("from", 0, 3, n -> new StudentSwaps().turn(n, 1, 5, 0) == 5);
        takes("to", 0, 3, n -> new StudentSwaps().turn(1, n, 5, 0) == 5);
        takes("mark", 0, 10, n -> new StudentSwaps().turn(0, 1, n, 0) != NONE);
        takes("what", 0, 2, n -> new StudentSwaps().turn(0, 1, 5, n) == 5);
        due("no such mark, -1 is none", x.turn(0, 1, -1, 0), NONE);
    }

    private static void largestScales() {
        sentence("of each how many had it (0 to 999; 1 at first)");
        StudentSwaps x = new StudentSwaps();
        for (int m = 0; m <= 10; m++) {
            x.had(0, m, 999);
            x.had(1, m, m == 10 ? 998 : 999);
        }
        for (int m = 0; m <= 10; m++) {
            due("nearly alike", x.turn(0, 1, m, 0), m);
            due("a little below", x.turn(0, 1, m, 1), Math.max(0, m - 1));
            due("nothing above", x.turn(0, 1, m, 2), m);
            due("back, nothing below", x.turn(1, 0, m, 1), m);
            due("back, a little above", x.turn(1, 0, m, 2), Math.min(10, m + 1));
        }
    }

    private static void days() {
        sentence("DAYS of a YEAR are 0 to 359.");
        takes("first day of a term", 0, 358, n -> new StudentSwaps().school(0, 0, 0, 0, n, 359, 0) == 0);
        takes("last day of a term", 1, 359, n -> new StudentSwaps().school(0, 0, 0, 0, 0, n, 0) == 0);
        takes("day of a fact", NONE, 359, n -> placedOne().fact(0, 0, n, 0));
        takes("day on which it is told", 0, 359, n -> placedOne().fact(0, 0, 0, n));
        takes("day on which it is known", 0, 359, n -> told().known(0, 0, n) == 7);
        takes("day of a visa", 0, 359, n -> told().visa(0, n) == 2);
        takes("day there", 0, 359, n -> told().there(1, n, 0) >= 0);
        takes("day there, known", 0, 359, n -> told().there(1, 150, n) == 1);
        takes("day that counts", 0, 359, n -> told().counts(0, 1, n) == 0);
        takes("day that crowds", 0, 359, n -> told().crowded(1, n) == 100);
    }

    /** As placedOne, asked and come early, and no BEDS. */
    private static StudentSwaps told() {
        StudentSwaps x = placedOne();
        x.fact(0, 0, 7, 0);
        x.fact(0, 2, 7, 0);
        x.beds(1, 0);
        return x;
    }

    private static void schools() {
        sentence("SCHOOLS 0 to 7: a LAND, a TONGUE (0 to 3), BEDS (0 to 9), a SCALE, a TERM from a DAY to a later"
                + " DAY of the YEAR, a FEE (0 to 99999 pence).");
        takes("land", 0, 3, n -> new StudentSwaps().school(n, 3, 9, 3, 0, 359, 99999) == 0);
        takes("tongue", 0, 3, n -> new StudentSwaps().school(3, n, 9, 3, 0, 359, 99999) == 0);
        takes("beds", 0, 9, n -> new StudentSwaps().school(3, 3, n, 3, 0, 359, 99999) == 0);
        takes("scale", 0, 3, n -> new StudentSwaps().school(3, 3, 9, n, 0, 359, 99999) == 0);
        takes("fee", 0, 99999, n -> new StudentSwaps().school(3, 3, 9, 3, 0, 359, n) == 0);
        StudentSwaps x = new StudentSwaps();
        for (int n = 0; n < 8; n++) {
            due("its number", x.school(0, 0, n, 0, 0, 1, 0), n);
            due("its beds", x.count(10 + n), n);
        }
    }

    private static void termRefused() {
        sentence("A SCHOOL: its number; NONE: no such numbers (TERM's end not behind its beginning), 8 are there.");
        takes("end of a term", 101, 359, n -> new StudentSwaps().school(0, 0, 0, 0, 100, n, 0) == 0);
        takes("beginning of a term", 0, 99, n -> new StudentSwaps().school(0, 0, 0, 0, n, 100, 0) == 0);
        StudentSwaps x = new StudentSwaps();
        due("the first day alone", x.school(0, 0, 0, 0, 0, 0, 0), NONE);
        due("the last day alone", x.school(0, 0, 0, 0, 359, 359, 0), NONE);
        due("turned round", x.school(0, 0, 0, 0, 359, 0, 0), NONE);
        due("none was made", x.count(1), 0);
        due("the last two days", x.school(0, 0, 0, 0, 358, 359, 0), 0);
    }

    private static void eightSchools() {
        sentence("8 are there");
        StudentSwaps x = office(8);
        due("a ninth", x.school(0, 0, 0, 0, 0, 1, 0), NONE);
        due("still", x.count(1), 8);
        due("wrong, too", x.school(FAR, FAR, FAR, FAR, FAR, FAR, FAR), NONE);
        due("there is no number 8", x.count(18), NONE);
    }

    private static void beds() {
        sentence("BEDS of SCHOOL h: true; false: no such ones.");
        takes("school, one is there", 0, 0, n -> office(1).beds(n, 1));
        takes("school, eight are there", 0, 7, n -> office(8).beds(n, 1));
        takes("beds", 0, 9, n -> office(1).beds(0, n));
        StudentSwaps x = office(8);
        for (int n = 0; n <= 9; n++) {
            x.beds(7, n);
            due("so many", x.count(17), n);
            due("not another's", x.count(16), 9);
        }
    }
}
