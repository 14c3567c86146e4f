/** Each sentence of the document's fourth part, and of promises 20 to 22, that names an edge. */
public final class CoursesTest extends Asked {
    private static final int ALL_HOURS = (1 << 20) - 1;

    public static void main(String[] args) {
        courses();
        sixCourses();
        cancel();
        cancelledOrGiven();
        given();
        levels();
        hours();
        twelveCredits();
        mostTopicsNeeded();
        onlyNeeded();
        fewestCredits();
        leastAsBits();
        nothing();
        lacking();
        study();
        ofAnybodyAnywhere();
        end();
    }

    private static int courseOf(int h, int topics, int credits, int level, int hours) {
        return office(3).course(h, topics, credits, level, hours);
    }

    private static void courses() {
        sentence("COURSES 0 to 5 of each SCHOOL: TOPICS (bits), CREDITS (1 to 9), a LEVEL (0 to 9), HOURS (20 bits);"
                + " given or CANCELLED.");
        takes("school, of three", 0, 2, n -> courseOf(n, 4095, 9, 9, ALL_HOURS) == 0);
        takes("school, of eight", 0, 7, n -> office(8).course(n, 0, 1, 0, 0) == 0);
        takes("topics", 0, 4095, n -> courseOf(2, n, 9, 9, ALL_HOURS) == 0);
        takes("credits", 1, 9, n -> courseOf(2, 4095, n, 9, ALL_HOURS) == 0);
        takes("level", 0, 9, n -> courseOf(2, 4095, 9, n, ALL_HOURS) == 0);
        takes("hours", 0, ALL_HOURS, n -> courseOf(2, 4095, 9, 9, n) == 0);
        due("no school is there", new StudentSwaps().course(0, 0, 1, 0, 0), NONE);
    }

    private static void sixCourses() {
        sentence("A COURSE of SCHOOL h: its number; NONE: no such ones, 6 are there.");
        StudentSwaps x = office(8);
        for (int h = 0; h < 8; h += 7) {
            for (int c = 0; c < 6; c++) {
                due("so many", x.count(30 + h), c);
                due("number", x.course(h, 0, 1, 0, 0), c);
            }
            due("a seventh", x.course(h, 0, 1, 0, 0), NONE);
            due("six", x.count(30 + h), 6);
        }
        due("of another school none", x.count(33), 0);
        x.cancel(0, 5, true);
        due("a cancelled one is there, too", x.course(0, 0, 1, 0, 0), NONE);
        x.course(3, 0, 0, 0, 0);
        x.course(3, 0, 10, 0, 0);
        due("refused ones are not", x.count(33), 0);
    }

    private static StudentSwaps threeCourses() {
        StudentSwaps x = office(2);
        for (int c = 0; c < 3; c++) {
            x.course(1, 1 << c, 1, 0, 0);
        }
        x.student(0, 0, 0, 0, 4095);
        return x;
    }

    private static void cancel() {
        sentence("COURSE c of SCHOOL h is CANCELLED (is), or given: true; false: no such one, it is so.");
        takes("course, of three", 0, 2, n -> threeCourses().cancel(1, n, true));
        takes("school, with courses", 1, 1, n -> threeCourses().cancel(n, 0, true));
        refuses("given, of three", n -> threeCourses().cancel(1, n, false), -1, 0, 1, 2, 3, 6,
            Integer.MIN_VALUE, Integer.MAX_VALUE);
        due("no course is there", office(1).cancel(0, 0, true), false);
        due("no school is there", new StudentSwaps().cancel(0, 0, true), false);
    }

    private static void cancelledOrGiven() {
        sentence("false: no such one, it is so");
        StudentSwaps x = threeCourses();
        due("it is given", x.cancel(1, 1, false), false);
        due("cancelled", x.cancel(1, 1, true), true);
        due("it is so", x.cancel(1, 1, true), false);
        due("the others are not", x.study(0, 1, 0), 0b101);
        due("given again", x.cancel(1, 1, false), true);
        due("it is so again", x.cancel(1, 1, false), false);
        due("all", x.study(0, 1, 0), 0b111);
        due("as many as before", x.count(31), 3);
    }

    private static void given() {
        sentence("of all sets of COURSES that are given");
        StudentSwaps x = threeCourses();
        for (int cancelled = 0; cancelled < 8; cancelled++) {
            for (int c = 0; c < 3; c++) {
                x.cancel(1, c, (cancelled >> c & 1) == 1);
            }
            due("without " + cancelled, x.study(0, 1, 0), 7 & ~cancelled);
            due("lacking", x.study(0, 1, 2), 4095 & ~(7 & ~cancelled));
        }
        StudentSwaps y = office(2);
        y.student(0, 0, 0, 0, 1);
        y.course(1, 1, 1, 0, 0);
        y.course(1, 1, 2, 0, 0);
        due("the cheaper", y.study(0, 1, 0), 1);
        y.cancel(1, 0, true);
        due("the one that is given", y.study(0, 1, 0), 2);
    }

    private static void levels() {
        sentence("whose LEVEL is not above theirs of its TONGUE");
        for (int level = 0; level <= 9; level++) {
            StudentSwaps x = office(4);
            x.student(0, 0, 0, 0, 1);
            x.course(2, 1, 1, level, 0);
            due("no test, level " + level, x.study(0, 2, 0), level == 0 ? 1 : 0);
            for (int n = 0; n <= 9; n++) {
                x.level(0, 2, n);
                due("level " + level + " by " + n, x.study(0, 2, 0), n >= level ? 1 : 0);
            }
            x.level(0, 2, NONE);
            for (int tongue = 0; tongue < 4; tongue++) {
                x.level(0, tongue, tongue == 2 ? NONE : 9);
            }
            due("another tongue does not count", x.study(0, 2, 0), level == 0 ? 1 : 0);
        }
    }

    private static void hours() {
        sentence("no two with an HOUR in common");
        for (int hour = 0; hour < 20; hour++) {
            StudentSwaps x = office(2);
            x.student(0, 0, 0, 0, 3);
            x.course(1, 1, 1, 0, 1 << hour);
            x.course(1, 2, 1, 0, ALL_HOURS);
            due("hour " + hour + " in common", x.study(0, 1, 0), 1);
            StudentSwaps y = office(2);
            y.student(0, 0, 0, 0, 3);
            y.course(1, 1, 1, 0, 1 << hour);
            y.course(1, 2, 1, 0, ALL_HOURS & ~(1 << hour));
            due("all but hour " + hour, y.study(0, 1, 0), 3);
        }
        StudentSwaps z = office(2);
        z.student(0, 0, 0, 0, 7);
        z.course(1, 1, 1, 0, 0);
        z.course(1, 2, 1, 0, 0);
        z.course(1, 4, 1, 0, ALL_HOURS);
        due("without hours there are none in common", z.study(0, 1, 0), 7);
        StudentSwaps w = office(2);
        w.student(0, 0, 0, 0, 0b1111);
        w.course(1, 0b0111, 1, 0, 0b011);
        w.course(1, 0b0011, 1, 0, 0b001);
        w.course(1, 0b1100, 1, 0, 0b010);
        due("two beside one another instead of one over both", w.study(0, 1, 0), 0b110);
    }

    private static void twelveCredits() {
        sentence("of at most 12 CREDITS together");
        StudentSwaps x = office(2);
        x.student(0, 0, 0, 0, 4095);
        for (int c = 0; c < 6; c++) {
            x.course(1, 3 << 2 * c, 2, 0, 1 << c);
        }
        due("six of two", x.study(0, 1, 0), 63);
        due("twelve", x.study(0, 1, 1), 12);
        due("nothing is lacking", x.study(0, 1, 2), 0);
        for (int credits = 1; credits <= 9; credits++) {
            StudentSwaps y = office(2);
            y.student(0, 0, 0, 0, 3);
            y.course(1, 1, credits, 0, 0);
            y.course(1, 2, 6, 0, 0);
            due("6 and " + credits, y.study(0, 1, 0), credits <= 6 ? 3 : 2);
            due("together", y.study(0, 1, 1), credits <= 6 ? 6 + credits : 6);
        }
        StudentSwaps z = office(2);
        z.student(0, 0, 0, 0, 4095);
        for (int c = 0; c < 6; c++) {
            z.course(1, 1 << c, 9, 0, 0);
        }
        due("one of nine", z.study(0, 1, 0), 1);
        StudentSwaps w = office(2);
        w.student(0, 0, 0, 0, 7);
        w.course(1, 1, 4, 0, 0);
        w.course(1, 2, 4, 0, 0);
        w.course(1, 4, 5, 0, 0);
        due("thirteen are too many", w.study(0, 1, 0), 3);
        w.course(1, 4, 4, 0, 0);
        due("twelve are not", w.study(0, 1, 0), 0b1011);
    }

    private static void mostTopicsNeeded() {
        sentence("that which covers most TOPICS needed");
        StudentSwaps x = office(2);
        x.student(0, 0, 0, 0, 0b111111111111);
        x.course(1, 0b000000000001, 1, 0, 0);
        x.course(1, 0b000000000111, 6, 0, 1);
        x.course(1, 0b111100000000, 7, 0, 1);
        due("1 and 4", x.study(0, 1, 0), 0b101);
        due("however many credits", x.study(0, 1, 1), 8);
        StudentSwaps y = office(2);
        y.student(0, 0, 0, 0, 0b1111);
        y.course(1, 0b0011, 1, 0, 0);
        y.course(1, 0b0110, 1, 0, 0);
        y.course(1, 0b1000, 1, 0, 0);
        due("a topic that is covered twice counts once", y.study(0, 1, 0), 7);
        y.course(1, 0b1100, 1, 0, 0);
        due("so two are enough", y.study(0, 1, 0), 0b1001);
        for (int topic = 0; topic < 12; topic++) {
            StudentSwaps z = office(2);
            z.student(0, 0, 0, 0, 1 << topic);
            z.course(1, 4095 & ~(1 << topic), 1, 0, 0);
            z.course(1, 1 << topic, 9, 0, 0);
            due("topic " + topic, z.study(0, 1, 0), 2);
        }
    }

    private static void onlyNeeded() {
        sentence("covers most TOPICS needed");
        StudentSwaps x = office(2);
        x.student(0, 0, 0, 0, 0b100);
        x.course(1, 0b011, 1, 0, 0);
        x.course(1, 0b101, 3, 0, 0);
        x.course(1, 0b100, 2, 0, 0);
        due("what is not needed does not count", x.study(0, 1, 0), 0b100);
        due("its credits", x.study(0, 1, 1), 2);
    }

    private static void fewestCredits() {
        sentence("of like ones of fewest CREDITS");
        StudentSwaps x = office(2);
        x.student(0, 0, 0, 0, 3);
        x.course(1, 3, 5, 0, 0);
        x.course(1, 1, 2, 0, 0);
        x.course(1, 2, 2, 0, 0);
        due("two of 4 together rather than one of 5", x.study(0, 1, 0), 6);
        x.course(1, 3, 3, 0, 0);
        due("one of 3 rather than two of 4", x.study(0, 1, 0), 8);
        due("its credits", x.study(0, 1, 1), 3);
        due("nothing is lacking", x.study(0, 1, 2), 0);
    }

    private static void leastAsBits() {
        sentence("of like ones the least, as bits");
        StudentSwaps x = office(2);
        x.student(0, 0, 0, 0, 3);
        x.course(1, 1, 2, 0, 0);
        x.course(1, 2, 2, 0, 0);
        x.course(1, 3, 4, 0, 0);
        due("two lower ones rather than one higher", x.study(0, 1, 0), 3);
        StudentSwaps y = office(2);
        y.student(0, 0, 0, 0, 3);
        y.course(1, 3, 4, 0, 0);
        y.course(1, 1, 2, 0, 0);
        y.course(1, 2, 2, 0, 0);
        due("one lower rather than two higher", y.study(0, 1, 0), 1);
        StudentSwaps z = office(2);
        z.student(0, 0, 0, 0, 1);
        for (int c = 0; c < 6; c++) {
            z.course(1, 1, 1, 0, 1 << c);
        }
        for (int c = 0; c < 6; c++) {
            due("the least that is given", z.study(0, 1, 0), 1 << c);
            z.cancel(1, c, true);
        }
        due("none is given", z.study(0, 1, 0), 0);
    }

    private static void nothing() {
        sentence("of all sets of COURSES");
        StudentSwaps x = office(2);
        x.student(0, 0, 0, 0, 0);
        x.student(0, 0, 0, 0, 0b1000);
        for (int what = 0; what < 3; what++) {
            due("without courses, what " + what, x.study(0, 1, what), 0);
        }
        due("lacking without courses", x.study(1, 1, 2), 0b1000);
        x.course(1, 0b0111, 1, 0, 0);
        for (int what = 0; what < 3; what++) {
            due("without needs, what " + what, x.study(0, 1, what), 0);
        }
        due("no course that is needed", x.study(1, 1, 0), 0);
        due("no credits", x.study(1, 1, 1), 0);
        due("lacking", x.study(1, 1, 2), 0b1000);
    }

    private static void lacking() {
        sentence("LACKING are TOPICS needed that it does not cover.");
        for (int needs : new int[] {0, 1, 2048, 4095, 0b101010101010}) {
            for (int topics : new int[] {0, 1, 2048, 4095, 0b110011001100}) {
                StudentSwaps x = office(2);
                x.student(0, 0, 0, 0, needs);
                x.course(1, topics, 1, 0, 0);
                due("needs " + needs + ", topics " + topics, x.study(0, 1, 2), needs & ~topics);
            }
        }
    }

    private static void study() {
        sentence("THE STUDY of STUDENT s at SCHOOL h, what 0 COURSES, as bits, 1 CREDITS, 2 LACKING, as bits. NONE for"
                + " others.");
        takes("student, of one", 0, 0, n -> threeCourses().study(n, 1, 0) == 7);
        takes("student, of two", 0, 1, n -> placedOne().study(n, 1, 0) == 0);
        takes("school, of two", 0, 1, n -> threeCourses().study(0, n, 0) == 7 * n);
        takes("what", 0, 2, n -> threeCourses().study(0, 1, n) != NONE);
        due("courses", threeCourses().study(0, 1, 0), 7);
        due("credits", threeCourses().study(0, 1, 1), 3);
        due("lacking", threeCourses().study(0, 1, 2), 4088);
    }

    private static void ofAnybodyAnywhere() {
        sentence("THE STUDY of a STUDENT at a SCHOOL");
        StudentSwaps x = threeCourses();
        x.course(0, 4095, 1, 0, 0);
        due("at home", x.study(0, 0, 0), 1);
        due("no agreement is there, nor a wish", x.may(0, 1), NONE);
        due("they study all the same", x.study(0, 1, 0), 7);
        x.out(0);
        due("out", x.study(0, 1, 0), 7);
        x.year();
        due("in another year", x.study(0, 1, 0), 7);
        StudentSwaps y = threeCourses();
        agree(y, 0, 1, "n1");
        y.wish(0, 1);
        y.round();
        due("placed", y.study(0, 1, 0), 7);
        y.year();
        due("done", y.study(0, 1, 0), 7);
    }
}
