/** For each promise of the document: ordinary inputs, the edges that it names, and wrong inputs. */
public final class PromisesTest extends Asked {
    public static void main(String[] args) {
        newObject();
        land();
        had();
        turn();
        school();
        beds();
        feed();
        agreement();
        agreementFaults();
        meets();
        terms();
        student();
        level();
        wish();
        may();
        round();
        roundRows();
        roundBounds();
        out();
        mend();
        mendByOtherAgreement();
        kept();
        balance();
        course();
        cancel();
        study();
        fact();
        known();
        visa();
        there();
        counts();
        crowded();
        year();
        owed();
        look();
        about();
        count();
        refusedChangeNothing();
        end();
    }

    private static void newObject() {
        StudentSwaps x = new StudentSwaps();
        for (int what = 0; what <= 9; what++) {
            due("1: count(" + what + ")", x.count(what), 0);
        }
        due("1: count(10)", x.count(10), NONE);
        due("1: NONE", StudentSwaps.NONE, -1);
        due("1: kept", x.kept(), 1);
        due("1: round", x.round(), 0);
        due("1: mend", x.mend(), 0);
    }

    private static void land() {
        StudentSwaps x = new StudentSwaps();
        due("2: first", x.land(0, 0, 0), true);
        due("2: last", x.land(3, 200, 200), true);
        due("2: below first", x.land(0, 6, 5), false);
        due("2: land 4", x.land(4, 1, 2), false);
        due("2: land -1", x.land(-1, 1, 2), false);
        due("2: 201", x.land(0, 0, 201), false);
        due("2: -1", x.land(0, -1, 5), false);
        due("2: far", x.land(Integer.MIN_VALUE, Integer.MAX_VALUE, Integer.MIN_VALUE), false);
    }

    private static void had() {
        StudentSwaps x = new StudentSwaps();
        due("3: 0", x.had(0, 0, 0), true);
        due("3: 999", x.had(3, 10, 999), true);
        due("3: 1000", x.had(3, 10, 1000), false);
        due("3: -1", x.had(3, 10, -1), false);
        due("3: scale 4", x.had(4, 0, 1), false);
        due("3: scale -1", x.had(-1, 0, 1), false);
        due("3: mark 11", x.had(0, 11, 1), false);
        due("3: mark -1", x.had(0, -1, 1), false);
        due("3: then", x.turn(0, 1, 1, 0), 0);
        StudentSwaps y = new StudentSwaps();
        y.had(0, 0, 2);
        // 2 of 12 had it, so that its MIDDLE is 1/12: 1 at first had each other MARK
        due("3: 1 at first", y.turn(1, 0, 1, 0), 0);
        due("3: 1 at first, too", y.turn(1, 0, 2, 0), 1);
    }

    private static void turn() {
        StudentSwaps x = new StudentSwaps();
        for (int m = 0; m <= 10; m++) {
            due("4: alike " + m, x.turn(2, 3, m, 0), m);
            x.had(1, m, m == 2 ? 3 : m == 7 ? 1 : 0);
            x.had(0, m, m == 4 ? 2 : m == 6 ? 2 : 0);
        }
        // scale 1: 2 has 0 to 3/4, 7 has 3/4 to 1; scale 0: 4 has 0 to 1/2, 6 has 1/2 to 1
        due("4: within", x.turn(0, 1, 4, 0), 2);
        due("4: border goes to the higher one", x.turn(0, 1, 6, 0), 7);
        due("4: least doubt", x.turn(0, 1, 6, 1), 2);
        due("4: greatest doubt", x.turn(0, 1, 6, 2), 7);
        due("4: one doubt", x.turn(0, 1, 4, 2), 2);
        due("4: nobody had it, in the middle", x.turn(0, 1, 5, 0), 2);
        due("4: its least doubt", x.turn(0, 1, 5, 1), 2);
        due("4: its greatest doubt", x.turn(0, 1, 5, 2), 2);
        due("4: upper end", x.turn(0, 1, 10, 0), 7);
        due("4: lower end", x.turn(0, 1, 0, 0), 2);
        due("4: other way", x.turn(1, 0, 2, 0), 4);
        due("4: other way's doubt", x.turn(1, 0, 2, 2), 6);
        due("4: a point is no doubt", x.turn(1, 0, 7, 1), 6);
        due("4: what 3", x.turn(0, 1, 4, 3), NONE);
        due("4: what -1", x.turn(0, 1, 4, -1), NONE);
        due("4: mark 11", x.turn(0, 1, 11, 0), NONE);
        due("4: mark -1", x.turn(0, 1, -1, 0), NONE);
        due("4: from 4", x.turn(4, 1, 0, 0), NONE);
        due("4: to 4", x.turn(0, 4, 0, 0), NONE);
        due("4: from -1", x.turn(-1, 1, 0, 0), NONE);
        due("4: to -1", x.turn(0, -1, 0, 0), NONE);
        x.had(1, 2, 0);
        x.had(1, 7, 0);
        due("4: none in the one", x.turn(1, 0, 2, 0), NONE);
        due("4: none in the other", x.turn(0, 1, 4, 0), NONE);
        for (int m = 0; m <= 10; m++) {
            x.had(0, m, 999);
            x.had(1, m, 999);
        }
        due("4: many", x.turn(0, 1, 9, 0), 9);
        due("4: many's doubt", x.turn(0, 1, 10, 1), 10);
    }

    private static void school() {
        StudentSwaps x = new StudentSwaps();
        due("5: land 4", x.school(4, 0, 0, 0, 0, 1, 0), NONE);
        due("5: land -1", x.school(-1, 0, 0, 0, 0, 1, 0), NONE);
        due("5: tongue 4", x.school(0, 4, 0, 0, 0, 1, 0), NONE);
        due("5: tongue -1", x.school(0, -1, 0, 0, 0, 1, 0), NONE);
        due("5: beds 10", x.school(0, 0, 10, 0, 0, 1, 0), NONE);
        due("5: beds -1", x.school(0, 0, -1, 0, 0, 1, 0), NONE);
        due("5: scale 4", x.school(0, 0, 0, 4, 0, 1, 0), NONE);
        due("5: scale -1", x.school(0, 0, 0, -1, 0, 1, 0), NONE);
        due("5: from -1", x.school(0, 0, 0, 0, -1, 1, 0), NONE);
        due("5: to 360", x.school(0, 0, 0, 0, 0, 360, 0), NONE);
        due("5: one day", x.school(0, 0, 0, 0, 7, 7, 0), NONE);
        due("5: backwards", x.school(0, 0, 0, 0, 8, 7, 0), NONE);
        due("5: fee", x.school(0, 0, 0, 0, 0, 1, 100000), NONE);
        due("5: fee -1", x.school(0, 0, 0, 0, 0, 1, -1), NONE);
        due("5: first", x.school(3, 3, 9, 3, 358, 359, 99999), 0);
        for (int h = 1; h < 8; h++) {
            due("5: next", x.school(0, 0, 0, 0, 0, 1, 0), h);
        }
        due("5: ninth", x.school(0, 0, 0, 0, 0, 1, 0), NONE);
        due("5: count", x.count(1), 8);
    }

    private static void beds() {
        StudentSwaps x = office(1);
        due("6: 0", x.beds(0, 0), true);
        due("6: now 0", x.count(10), 0);
        due("6: 9", x.beds(0, 9), true);
        due("6: 10", x.beds(0, 10), false);
        due("6: -1", x.beds(0, -1), false);
        due("6: no school", x.beds(1, 1), false);
        due("6: school -1", x.beds(-1, 1), false);
        due("6: now 9", x.count(10), 9);
    }

    private static void feed() {
        StudentSwaps x = office(2);
        due("7: 20", x.feed(word("n3;b", 0), word("4;p5", 0), 0, 0, -1), 20);
        due("7: 40", x.feed(-1, 0, 0, 0, 0), 40);
        due("7: 60", x.feed(0, 0, 0, 0, 0), 60);
        due("7: 80", x.feed(0, 0, 0, 0, 0), 80);
        due("7: 100", x.feed(0, 0, 0, 0, 0), NONE);
        due("7: still 80", x.count(9), 80);
        due("7: text", x.agreement(0, 1, 8), 0);
        due("7: n", x.about(0, 2), 3);
        due("7: b", x.about(0, 3), 4);
        due("7: p", x.about(0, 4), 5);
        due("7: empty", x.count(9), 0);
        x.feed(word("n7;b", 0), word("8;p9", 0), word("12;y", 0), word("3-44", 0), word(";n00", 0));
        x.feed(word("5;b9", 0), 0, 0, 0, 0);
        due("7: over two", x.agreement(0, 1, 24), 1);
        due("7: later n", x.about(1, 2), 5);
        due("7: later b", x.about(1, 3), 9);
        due("7: p of two", x.about(1, 4), 912);
        due("7: first year", x.about(1, 5), 3);
        due("7: last year", x.about(1, 6), 44);
    }

    private static void agreement() {
        StudentSwaps x = office(3);
        feedText(x, "n1");
        due("8: n 0", x.agreement(0, 1, 0), NONE);
        due("8: n -1", x.agreement(0, 1, -1), NONE);
        due("8: alike", x.agreement(0, 0, 2), NONE);
        due("8: no second", x.agreement(0, 3, 2), NONE);
        due("8: no first", x.agreement(-1, 0, 2), NONE);
        due("8: not so many", x.agreement(0, 1, 21), NONE);
        due("8: the tape stays", x.count(9), 20);
        feedText(x, "000000000000000000000000000000000000000000000000000000000000");
        due("8: 61", x.agreement(0, 1, 61), NONE);
        due("8: the tape still stays", x.count(9), 80);
        due("8: zero byte", x.agreement(0, 1, 3), -102);
        due("8: a fault empties it", x.count(9), 0);
        due("8: and none is made", x.count(2), 0);
        String sixty = "(g<1000&g<1000&g<1000&g<1000&g<1000&g<1000&g<1000|t=9&t=999)";
        due("8: sixty", agree(x, 2, 1, sixty), 0);
        due("8: its first", x.about(0, 0), 2);
        due("8: its second", x.about(0, 1), 1);
        due("8: p9999", agree(x, 0, 1, "p9999"), 1);
        due("8: b99", agree(x, 0, 1, "b99;n0;p0;y0-0;y99-99;y0000-0099;n0009;b0099"), 2);
        for (int i = 3; i < 12; i++) {
            due("8: next", agree(x, 0, 1, "(s=0)"), i);
        }
        due("8: thirteenth", agree(x, 0, 1, "(s=0)"), NONE);
        due("8: thirteenth leaves the tape", x.count(9), 20);
        due("8: twelve", x.count(2), 12);
    }

    private static void fault(String text, int want) {
        StudentSwaps x = office(2);
        due("8: " + text, agree(x, 0, 1, text), want);
        due("8: none by " + text, x.count(2), want >= 0 ? 1 : 0);
        due("8: tape behind " + text, x.count(9), 0);
    }

    private static void agreementFaults() {
        fault("x", -100);
        fault(";", -100);
        fault("n", -101);
        fault("n1;", -103);
        fault("n1;;n1", -103);
        fault("n1 ", -102);
        fault(" n1", -100);
        fault("n10", -201);
        fault("n10x", -201);
        fault("n12345", -105);
        fault("n1234", -201);
        fault("n10000", -105);
        fault("b12340", -105);
        fault("n00001", -105);
        fault("n0001", 0);
        fault("b100", -201);
        fault("b99", 0);
        fault("p9999", 0);
        fault("p10000", -105);
        fault("y5", -102);
        fault("y5-", -103);
        fault("y5-4", -203);
        fault("y5-5", 0);
        fault("y100-101", -201);
        fault("y5-100", -203);
        fault("y0-99", 0);
        fault("n1b1", -102);
        fault("(", -101);
        fault("()", -101);
        fault("(g", -102);
        fault("(g5)", -102);
        fault("(g<)", -103);
        fault("(g<5", -104);
        fault("(g<5))", -105);
        fault("(g<5)g", -105);
        fault("(g<5)(g<5)", -105);
        fault("(g<5);(g<5)", 0);
        fault("(g<9999)", 0);
        fault("(g<12345)", -107);
        fault("(g<5|)", -105);
        fault("(|g<5)", -101);
        fault("(g<5&)", -105);
        fault("(g<5&|g<6)", -105);
        fault("(!)", -102);
        fault("(!!g<5)", 0);
        fault("(g!<5)", -102);
        fault("(x<5)", -101);
        fault("(g<5&(t>1|c=2))", 0);
        fault("((((((g<5))))))", 0);
        fault("(((((((g<5)))))))", -306);
        fault("(!(!(!(!(!(!(g<5)))))))", -312);
        fault("((g<1)&(g<1)&(g<1)&(g<1)&(g<1)&(g<1)&(g<1))", 0);
        fault("((((((g<1)|(g<1)|g<1)))))", 0);
        fault("g<5", -100);
        fault("(g<5);x", -106);
        fault("n1;(((((((;", -309);
        fault("N1", -100);
        fault("n-1", -101);
        fault("y-1-2", -101);
        fault("n1" + (char) 0x3b + (char) 0xfc, -103);
        fault("((((((!!!!!!!!!!!!!!!!!!!!!!!!!!!!!!!!!!!!!!!!!!!!!!!!!!!!!!", -160);
    }

    private static void meets() {
        StudentSwaps x = office(2);
        agree(x, 0, 1, "n1");
        agree(x, 0, 1, "(g<50)");
        agree(x, 0, 1, "(t>3);(c=7)");
        agree(x, 0, 1, "(!g<50&t>3|s=7)");
        agree(x, 0, 1, "(!(g<50|t>3)&!!c<9)");
        agree(x, 0, 1, "(s>5|s<2)");
        agree(x, 0, 1, "(s<8);(s<9999);(!s>7);(!s=8);(!s=9)");
        agree(x, 0, 1, "(g<0)");
        due("9: subjects beyond", x.meets(6, 0, 0, 0, 7) + x.meets(6, 0, 0, 0, 0), 2);
        due("9: nothing is below 0", x.meets(7, 0, 0, 0, 0), 0);
        due("9: all", x.meets(0, 0, 0, 0, 0), 1);
        due("9: below", x.meets(1, 49, 0, 0, 0), 1);
        due("9: not below", x.meets(1, 50, 0, 0, 0), 0);
        due("9: both", x.meets(2, 0, 4, 7, 0), 1);
        due("9: second fails", x.meets(2, 0, 4, 8, 0), 0);
        due("9: first fails", x.meets(2, 0, 3, 7, 0), 0);
        due("9: not and", x.meets(3, 50, 4, 0, 0), 1);
        due("9: not and fails", x.meets(3, 49, 4, 0, 0), 0);
        due("9: or", x.meets(3, 49, 4, 0, 7), 1);
        due("9: bracket", x.meets(4, 50, 3, 8, 0), 1);
        due("9: bracket fails", x.meets(4, 50, 4, 8, 0), 0);
        due("9: twice not", x.meets(4, 50, 3, 9, 0), 0);
        for (int s = 0; s < 8; s++) {
            due("9: subject " + s, x.meets(5, 0, 0, 0, s), s > 5 || s < 2 ? 1 : 0);
        }
        due("9: ends", x.meets(0, 100, 9, 99, 7), 1);
        due("9: grade 101", x.meets(0, 101, 0, 0, 0), NONE);
        due("9: grade -1", x.meets(0, -1, 0, 0, 0), NONE);
        due("9: level 10", x.meets(0, 0, 10, 0, 0), NONE);
        due("9: level -1", x.meets(0, 0, -1, 0, 0), NONE);
        due("9: credits 100", x.meets(0, 0, 0, 100, 0), NONE);
        due("9: credits -1", x.meets(0, 0, 0, -1, 0), NONE);
        due("9: subject 8", x.meets(0, 0, 0, 0, 8), NONE);
        due("9: subject -1", x.meets(0, 0, 0, 0, -1), NONE);
        due("9: agreement 8", x.meets(8, 0, 0, 0, 0), NONE);
        due("9: agreement -1", x.meets(-1, 0, 0, 0, 0), NONE);
    }

    private static void terms() {
        StudentSwaps x = office(3);
        agree(x, 0, 1, "(g>99)");
        agree(x, 1, 0, "(g=100)");
        agree(x, 0, 1, "(g>100)");
        agree(x, 0, 1, "(g<100);y0-4");
        agree(x, 0, 1, "y5-9;(g=100)");
        agree(x, 0, 1, "y4-9;(g=100)");
        agree(x, 0, 2, "(c>98&t>8&s>6)");
        agree(x, 0, 2, "(c=99&t=9&s=7)");
        agree(x, 0, 2, "(c>99|t>9|s>7|g<0)");
        agree(x, 0, 1, "(g<9999)");
        due("10: not empty", x.terms(0, 0, 0), 0);
        due("10: empty", x.terms(2, 0, 0), 1);
        due("10: at the far end", x.terms(6, 0, 0), 0);
        due("10: beyond all ends", x.terms(8, 0, 0), 1);
        due("10: the same", x.terms(0, 1, 1), 1);
        due("10: the same again", x.terms(1, 0, 1), 1);
        due("10: the same in the corner", x.terms(6, 7, 1) + x.terms(7, 6, 1), 2);
        due("10: all say no more than the empty one", x.terms(0, 2, 1), 1);
        due("10: the empty one says more", x.terms(2, 0, 1), 0);
        due("10: wider", x.terms(9, 0, 1), 1);
        due("10: narrower", x.terms(0, 9, 1), 0);
        due("10: quarrel, other order of schools", x.terms(1, 3, 2), 1);
        due("10: no year in common", x.terms(3, 4, 2), 0);
        due("10: one year in common", x.terms(3, 5, 2), 1);
        due("10: one year in common, other way", x.terms(5, 3, 2), 1);
        due("10: other schools", x.terms(3, 7, 2), 0);
        due("10: something meets both", x.terms(0, 1, 2), 0);
        due("10: empty with itself", x.terms(8, 8, 2), 1);
        due("10: what 3", x.terms(0, 1, 3), NONE);
        due("10: what -1", x.terms(0, 1, -1), NONE);
        due("10: x 10", x.terms(10, 0, 0), NONE);
        due("10: y 10", x.terms(0, 10, 0), NONE);
        due("10: x -1", x.terms(-1, 0, 0), NONE);
        due("10: y -1", x.terms(0, -1, 0), NONE);
    }

    private static void student() {
        StudentSwaps x = office(1);
        due("11: no home", x.student(1, 0, 0, 0, 0), NONE);
        due("11: home -1", x.student(-1, 0, 0, 0, 0), NONE);
        due("11: subject 8", x.student(0, 8, 0, 0, 0), NONE);
        due("11: subject -1", x.student(0, -1, 0, 0, 0), NONE);
        due("11: grade 101", x.student(0, 0, 101, 0, 0), NONE);
        due("11: grade -1", x.student(0, 0, -1, 0, 0), NONE);
        due("11: credits 100", x.student(0, 0, 0, 100, 0), NONE);
        due("11: credits -1", x.student(0, 0, 0, -1, 0), NONE);
        due("11: needs 4096", x.student(0, 0, 0, 0, 4096), NONE);
        due("11: needs -1", x.student(0, 0, 0, 0, -1), NONE);
        due("11: most", x.student(0, 7, 100, 99, 4095), 0);
        due("11: waits", x.look(0, 0), 0);
        due("11: no wishes", x.look(0, 9), 0);
        for (int t = 0; t < 4; t++) {
            due("11: no test", x.look(0, 20 + t), NONE);
        }
        for (int s = 1; s < 16; s++) {
            due("11: next", x.student(0, 0, 0, 0, 0), s);
        }
        due("11: seventeenth", x.student(0, 0, 0, 0, 0), NONE);
    }

    private static void level() {
        StudentSwaps x = office(2);
        agree(x, 0, 1, "(t>3)");
        wisher(x, 0, 1);
        due("12: none may", x.may(0, 1), NONE);
        due("12: another tongue", x.level(0, 0, 9), true);
        due("12: that one does not count", x.may(0, 1), NONE);
        due("12: 4", x.level(0, 1, 4), true);
        due("12: may", x.may(0, 1), 0);
        due("12: look", x.look(0, 21), 4);
        due("12: 10", x.level(0, 1, 10), false);
        due("12: -2", x.level(0, 1, -2), false);
        due("12: tongue 4", x.level(0, 4, 1), false);
        due("12: tongue -1", x.level(0, -1, 1), false);
        due("12: no student", x.level(1, 0, 1), false);
        due("12: student -1", x.level(-1, 0, 1), false);
        due("12: none", x.level(0, 1, NONE), true);
        due("12: look none", x.look(0, 21), NONE);
        due("12: none counts 0", x.may(0, 1), NONE);
        StudentSwaps y = office(4);
        agree(y, 1, 0, "(t=0)");
        agree(y, 1, 0, "(t=9)");
        agree(y, 1, 3, "(t=0)");
        agree(y, 1, 3, "(t=9)");
        wisher(y, 1, 0, 3);
        due("12: no test counts 0", y.may(0, 0) * 10 + y.may(0, 3), 2);
        y.level(0, 0, 9);
        y.level(0, 3, 9);
        due("12: first and last tongue", y.may(0, 0) * 10 + y.may(0, 3), 13);
    }

    private static void wish() {
        StudentSwaps x = office(6);
        x.student(0, 0, 0, 0, 0);
        due("13: home", x.wish(0, 0), false);
        due("13: first", x.wish(0, 3), true);
        due("13: twice", x.wish(0, 3), false);
        due("13: no school", x.wish(0, 6), false);
        due("13: school -1", x.wish(0, -1), false);
        due("13: no student", x.wish(1, 1), false);
        due("13: student -1", x.wish(-1, 1), false);
        due("13: second", x.wish(0, 2), true);
        due("13: third", x.wish(0, 1), true);
        due("13: fourth", x.wish(0, 4), true);
        due("13: fifth", x.wish(0, 5), false);
        due("13: row", x.look(0, 10) * 1000 + x.look(0, 11) * 100 + x.look(0, 12) * 10 + x.look(0, 13), 3214);
        x.student(0, 0, 0, 0, 0);
        x.out(1);
        due("13: out", x.wish(1, 1), false);
        x.year();
        due("13: waiting again", x.wish(1, 1), true);
        agree(x, 0, 1, "n9;b9");
        due("13: both are placed", x.round(), 2);
        due("13: third wish", x.look(0, 3), 2);
        due("13: placed", x.wish(0, 5), false);
        x.year();
        due("13: done", x.wish(0, 5), false);
    }

    private static void may() {
        StudentSwaps x = office(3);
        agree(x, 0, 2, "n1");
        agree(x, 1, 0, "y1-1");
        agree(x, 0, 1, "(g>60)");
        agree(x, 0, 1, "(g>40&c=10&s=0)");
        agree(x, 1, 0, "n9");
        int s = x.student(0, 0, 50, 10, 0);
        int t = x.student(1, 0, 70, 10, 0);
        due("14: lowest that is met", x.may(s, 1), 3);
        due("14: other way", x.may(t, 0), 2);
        due("14: none between", x.may(t, 2), NONE);
        due("14: home", x.may(s, 0), NONE);
        due("14: no school", x.may(s, 3), NONE);
        due("14: school -1", x.may(s, -1), NONE);
        due("14: no student", x.may(2, 1), NONE);
        due("14: student -1", x.may(-1, 1), NONE);
        x.year();
        due("14: in force", x.may(s, 1), 1);
        x.year();
        due("14: no more in force", x.may(s, 1), 3);
    }

    private static void round() {
        StudentSwaps x = office(4);
        agree(x, 0, 1, "n1;b9");
        agree(x, 0, 2, "n9;b9");
        agree(x, 0, 3, "n9;b9");
        wisher(x, 0, 1, 2);
        wisher(x, 0, 1, 3);
        wisher(x, 0);
        due("15: two", x.round(), 2);
        due("15: like ones: the least row", x.look(0, 1), 1);
        due("15: the second goes on", x.look(1, 1), 3);
        due("15: by its agreement", x.look(1, 2), 2);
        due("15: nobody more", x.round(), 0);
        for (int i = 3; i < 10; i++) {
            wisher(x, 0, 2);
        }
        // 2 waits without wishes and is one of the seven
        due("15: seven", x.round(), 6);
        due("15: the last waits", x.look(9, 0), 0);
        x.beds(2, 5);
        due("15: not even nothing", x.round(), 0);
        x.beds(2, 7);
        due("15: then it goes on", x.round(), 1);
    }

    /** A PLAN that serves more first WISHES is fairer than one that serves more in all. */
    private static void roundRows() {
        StudentSwaps x = office(4);
        agree(x, 0, 1, "n1;b0");
        agree(x, 2, 1, "n9;b9");
        agree(x, 2, 3, "n9;b9");
        x.beds(1, 1);
        wisher(x, 0, 1);
        wisher(x, 2, 1, 3);
        due("15: the balance can't be kept", x.round(), 1);
        due("15: so the other one is first", x.look(1, 3), 0);
        due("15: and the first waits", x.look(0, 0), 0);
        x.out(1);
        wisher(x, 1, 0);
        due("15: both ways", x.round(), 2);
        due("15: balance", x.balance(0), 0);
        StudentSwaps y = office(5);
        agree(y, 0, 1, "n9;b9");
        agree(y, 0, 2, "n9;b9");
        agree(y, 0, 3, "n9;b9");
        y.beds(1, 1);
        y.beds(2, 1);
        y.beds(3, 1);
        wisher(y, 0, 2, 1);
        wisher(y, 0, 1, 2);
        wisher(y, 0, 1, 2, 3);
        due("15: three", y.round(), 3);
        due("15: first of 0", y.look(0, 3), 0);
        due("15: first of 1", y.look(1, 3), 0);
        due("15: third of 2", y.look(2, 3), 2);
        StudentSwaps z = office(4);
        agree(z, 0, 1, "n9;b9");
        agree(z, 0, 2, "n9;b9");
        z.beds(1, 1);
        z.beds(2, 1);
        wisher(z, 0, 3, 1);
        wisher(z, 0, 3, 2, 1);
        due("15: no agreement for the first", z.round(), 2);
        due("15: second of 0", z.look(0, 3), 1);
        due("15: second of 1", z.look(1, 3), 1);
    }

    /** Bounds of the last AGREEMENT and SCHOOL, each way, over years; the fourth WISH. */
    private static void roundBounds() {
        StudentSwaps x = office(8);
        for (int i = 0; i < 11; i++) {
            agree(x, 0, 1, "(g>99)");
        }
        agree(x, 6, 7, "n2;b1");
        for (int i = 0; i < 2; i++) {
            wisher(x, 7, 0, 1, 2, 6);
        }
        due("15: the balance", x.round(), 1);
        due("15: the fourth wish", x.look(0, 3), 3);
        due("15: the other one waits", x.look(1, 0), 0);
        for (int i = 0; i < 3; i++) {
            wisher(x, 6, 7);
        }
        due("15: no more than two either way", x.round(), 3);
        due("15: back", x.look(1, 1), 6);
        due("15: out", x.look(2, 0) * 100 + x.look(3, 0) * 10 + x.look(4, 0), 110);
        x.year();
        wisher(x, 7, 6);
        wisher(x, 7, 6);
        wisher(x, 7, 6);
        due("15: two back, one out: one more than before", x.round(), 3);
        due("15: kept over years", x.balance(11), -1);
        x.year();
        wisher(x, 7, 6);
        due("15: over years", x.round(), 0);
        wisher(x, 6, 7);
        x.beds(7, 0);
        due("15: no bed", x.round(), 0);
        x.beds(7, 1);
        due("15: one bed", x.round(), 2);
        StudentSwaps y = office(5);
        for (int h = 1; h < 5; h++) {
            agree(y, 0, h, "n9;b9");
            y.beds(h, h == 4 ? 1 : 0);
        }
        wisher(y, 0, 1, 2, 3, 4);
        wisher(y, 0, 1, 2, 3, 4);
        due("15: four wishes, and nothing", y.round(), 1);
        due("15: the fourth", y.look(0, 3), 3);
        due("15: nothing", y.look(1, 0), 0);
    }

    private static void out() {
        StudentSwaps x = office(2);
        agree(x, 0, 1, "n9;b9");
        wisher(x, 0, 1);
        wisher(x, 0, 1);
        due("16: waiting", x.out(0), true);
        due("16: state", x.look(0, 0), 2);
        due("16: again", x.out(0), false);
        x.round();
        x.fact(1, 2, 5, 5);
        due("16: placed", x.out(1), true);
        due("16: no school", x.look(1, 1), NONE);
        due("16: no agreement", x.look(1, 2), NONE);
        due("16: no wish served", x.look(1, 3), NONE);
        due("16: forgotten", x.known(1, 2, 359), NONE);
        due("16: not in the balance", x.balance(0), 0);
        due("16: no student", x.out(2), false);
        due("16: student -1", x.out(-1), false);
        due("16: not in the round", x.round(), 0);
        x.year();
        x.round();
        x.year();
        due("16: done", x.out(0), false);
    }

    private static void mend() {
        StudentSwaps x = office(4);
        agree(x, 0, 1, "n9;b9");
        agree(x, 0, 2, "n9;b9");
        for (int i = 0; i < 3; i++) {
            wisher(x, 0, 1, 2);
        }
        x.round();
        due("17: nothing to mend", x.mend(), 0);
        for (int s = 0; s < 3; s++) {
            x.fact(s, 2, 50 + s, 60);
        }
        x.beds(1, 2);
        due("17: one moves", x.mend(), 1);
        due("17: the least row: the last one moves", x.look(2, 1), 2);
        due("17: the first stays", x.look(0, 1), 1);
        due("17: by the other agreement", x.look(2, 2), 1);
        due("17: it is forgotten", x.known(2, 2, 359), NONE);
        due("17: of those who stay it is not", x.known(1, 2, 359), 51);
        due("17: told stays", x.count(8), 3);
        x.beds(1, 9);
        due("17: nobody goes back", x.mend(), 0);
        due("17: still there", x.look(2, 1), 2);
        x.beds(2, 0);
        due("17: fairest of one move", x.mend(), 1);
        due("17: to the first wish", x.look(2, 3), 0);
        for (int i = 3; i < 8; i++) {
            wisher(x, 0, 2);
        }
        x.beds(2, 9);
        due("17: waiting ones stay so", x.mend(), 0);
        due("17: four of seven", x.round(), 5);
        x.beds(2, 0);
        due("17: the eighth can't be moved", x.mend(), NONE);
        due("17: nothing changes", x.count(5), 8);
        x.beds(2, 1);
        due("17: four are moved", x.mend(), 4);
        due("17: they wait", x.count(4), 4);
        due("17: the eighth stays", x.look(7, 1), 2);
    }

    /** The LEVEL has changed: the same SCHOOL by another AGREEMENT is no move. */
    private static void mendByOtherAgreement() {
        StudentSwaps x = office(3);
        agree(x, 0, 1, "b9;(t>4)");
        agree(x, 0, 1, "b9;n9;p5");
        wisher(x, 0, 1);
        x.level(0, 1, 5);
        x.round();
        x.fact(0, 0, 7, 7);
        due("17: by the first", x.look(0, 2), 0);
        x.level(0, 1, 4);
        due("17: no move", x.mend(), 0);
        due("17: by the second", x.look(0, 2), 1);
        due("17: known stays", x.known(0, 0, 9), 7);
        StudentSwaps y = office(3);
        agree(y, 0, 1, "b9;(t>4)");
        wisher(y, 0, 1);
        y.level(0, 1, 5);
        y.round();
        y.level(0, 1, 4);
        due("17: who may not go moves", y.mend(), 1);
        due("17: and waits", y.look(0, 0), 0);
    }

    private static void kept() {
        StudentSwaps x = office(2);
        agree(x, 0, 1, "n2;b1;y0-0");
        agree(x, 0, 1, "n2;b9;y1-99");
        wisher(x, 0, 1);
        wisher(x, 1, 0);
        wisher(x, 0, 1);
        due("18: three", x.round(), 3);
        due("18: kept", x.kept(), 1);
        x.out(1);
        due("18: balance", x.kept(), 0);
        x.year();
        due("18: not in force", x.kept(), 1);
        x.round();
        due("18: one more", x.look(1, 2), 1);
        x.beds(0, 0);
        due("18: beds", x.kept(), 0);
        x.beds(0, 1);
        due("18: just as many", x.kept(), 1);
    }

    private static void balance() {
        StudentSwaps x = office(2);
        agree(x, 1, 0, "n9;b9");
        wisher(x, 0, 1);
        wisher(x, 0, 1);
        wisher(x, 1, 0);
        x.round();
        due("19: second less first", x.balance(0), -1);
        x.year();
        due("19: done ones count", x.balance(0), -1);
        wisher(x, 1, 0);
        wisher(x, 1, 0);
        x.round();
        due("19: over years", x.balance(0), 1);
        due("19: none such", x.balance(1), 0);
        due("19: -1", x.balance(-1), 0);
    }

    private static void course() {
        StudentSwaps x = office(1);
        due("20: topics 4096", x.course(0, 4096, 1, 0, 0), NONE);
        due("20: topics -1", x.course(0, -1, 1, 0, 0), NONE);
        due("20: credits 0", x.course(0, 0, 0, 0, 0), NONE);
        due("20: credits 10", x.course(0, 0, 10, 0, 0), NONE);
        due("20: level 10", x.course(0, 0, 1, 10, 0), NONE);
        due("20: level -1", x.course(0, 0, 1, -1, 0), NONE);
        due("20: hours", x.course(0, 0, 1, 0, 1 << 20), NONE);
        due("20: hours -1", x.course(0, 0, 1, 0, -1), NONE);
        due("20: no school", x.course(1, 0, 1, 0, 0), NONE);
        due("20: school -1", x.course(-1, 0, 1, 0, 0), NONE);
        due("20: first", x.course(0, 4095, 9, 9, (1 << 20) - 1), 0);
        for (int c = 1; c < 6; c++) {
            due("20: next", x.course(0, 0, 1, 0, 0), c);
        }
        due("20: seventh", x.course(0, 0, 1, 0, 0), NONE);
        due("20: six", x.count(30), 6);
    }

    private static void cancel() {
        StudentSwaps x = office(1);
        x.course(0, 1, 1, 0, 0);
        x.student(0, 0, 0, 0, 1);
        due("21: it is given", x.cancel(0, 0, false), false);
        due("21: cancelled", x.cancel(0, 0, true), true);
        due("21: not studied", x.study(0, 0, 0), 0);
        due("21: it is so", x.cancel(0, 0, true), false);
        due("21: given again", x.cancel(0, 0, false), true);
        due("21: studied", x.study(0, 0, 0), 1);
        due("21: no course", x.cancel(0, 1, true), false);
        due("21: course -1", x.cancel(0, -1, true), false);
        due("21: no school", x.cancel(1, 0, true), false);
        due("21: school -1", x.cancel(-1, 0, true), false);
    }

    private static void study() {
        StudentSwaps x = office(2);
        x.student(0, 0, 0, 0, 0b111111);
        x.course(1, 0b000111, 9, 0, 1);
        x.course(1, 0b001000, 3, 0, 2);
        x.course(1, 0b011000, 4, 0, 4);
        due("22: twelve credits at most", x.study(0, 1, 0), 0b011);
        due("22: credits", x.study(0, 1, 1), 12);
        due("22: lacking", x.study(0, 1, 2), 0b110000);
        x.course(1, 0b000111, 8, 0, 8);
        due("22: most topics", x.study(0, 1, 0), 0b1100);
        x.course(1, 0b111000, 4, 1, 8);
        due("22: level too high", x.study(0, 1, 0), 0b1100);
        x.level(0, 1, 1);
        due("22: an hour in common", x.study(0, 1, 0), 0b1100);
        x.cancel(1, 3, true);
        due("22: nine and four are too many", x.study(0, 1, 0), 0b00011);
        x.course(1, 0b001111, 8, 0, 1 << 19);
        due("22: most again", x.study(0, 1, 0), 0b110000);
        due("22: nothing is lacking", x.study(0, 1, 2), 0);
        StudentSwaps y = office(2);
        y.student(0, 0, 0, 0, 3);
        y.course(1, 3, 5, 0, 1);
        y.course(1, 3, 4, 0, 2);
        y.course(1, 7, 4, 0, 4);
        due("22: fewest credits, least bits", y.study(0, 1, 0), 2);
        y.student(0, 0, 0, 0, 0);
        due("22: nothing needed", y.study(1, 1, 0), 0);
        due("22: no credits", y.study(1, 1, 1), 0);
        due("22: what 3", y.study(0, 1, 3), NONE);
        due("22: what -1", y.study(0, 1, -1), NONE);
        due("22: no student", y.study(2, 1, 0), NONE);
        due("22: student -1", y.study(-1, 1, 0), NONE);
        due("22: no school", y.study(0, 2, 0), NONE);
        due("22: school -1", y.study(0, -1, 0), NONE);
        due("22: without courses", y.study(0, 0, 2), 3);
    }

    private static void fact() {
        StudentSwaps x = placedOne();
        due("23: waiting", x.fact(1, 0, 5, 5), false);
        due("23: no student", x.fact(2, 0, 5, 5), false);
        due("23: student -1", x.fact(-1, 0, 5, 5), false);
        due("23: what 4", x.fact(0, 4, 5, 5), false);
        due("23: what -1", x.fact(0, -1, 5, 5), false);
        due("23: day 360", x.fact(0, 0, 360, 5), false);
        due("23: day -2", x.fact(0, 0, -2, 5), false);
        due("23: told 360", x.fact(0, 0, 5, 360), false);
        due("23: told -1", x.fact(0, 0, 5, -1), false);
        due("23: none yet", x.count(8), 0);
        due("23: told", x.fact(0, 0, 359, 5), true);
        due("23: same day", x.fact(0, 3, NONE, 5), true);
        due("23: ahead", x.fact(0, 1, 5, 4), false);
        x.round();
        due("23: ahead over all", x.fact(1, 1, 5, 4), false);
        for (int i = 2; i < 200; i++) {
            due("23: more", x.fact(1, 1, i, 359), true);
        }
        due("23: 201", x.fact(1, 1, 5, 359), false);
        due("23: 200", x.count(8), 200);
        x.out(1);
        due("23: forgotten ones were told", x.count(8), 200);
        due("23: still 201", x.fact(0, 1, 5, 359), false);
        x.year();
        due("23: none this year", x.count(8), 0);
        x.round();
        due("23: told anew from day 0 on", x.fact(1, 1, 5, 0), true);
    }

    private static void known() {
        StudentSwaps x = placedOne();
        due("24: nothing told", x.known(0, 0, 359), NONE);
        x.fact(0, 0, 10, 5);
        x.fact(0, 0, 11, 5);
        x.fact(0, 1, 20, 6);
        x.fact(0, 0, NONE, 7);
        x.fact(0, 0, 3, 8);
        due("24: ahead of it", x.known(0, 0, 4), NONE);
        due("24: of one day the last", x.known(0, 0, 5), 11);
        due("24: by then", x.known(0, 0, 6), 11);
        due("24: of each", x.known(0, 1, 6), 20);
        due("24: never", x.known(0, 0, 7), NONE);
        due("24: last", x.known(0, 0, 359), 3);
        due("24: another", x.known(1, 0, 359), NONE);
        due("24: no student", x.known(2, 0, 359), NONE);
        due("24: student -1", x.known(-1, 0, 359), NONE);
        due("24: what 4", x.known(0, 4, 359), NONE);
        due("24: what -1", x.known(0, -1, 359), NONE);
        due("24: told 360", x.known(0, 0, 360), NONE);
        due("24: told -1", x.known(0, 0, -1), NONE);
        x.year();
        due("24: forgotten", x.known(0, 0, 359), NONE);
    }

    private static void visa() {
        StudentSwaps x = placedOne();
        due("25: never asked", x.visa(0, 0), 0);
        x.fact(0, 0, 70, 1);
        due("25: the later one is the first day", x.visa(0, 1), 2);
        x.fact(0, 0, 71, 2);
        due("25: the later one is behind it", x.visa(0, 2), 1);
        x.fact(0, 0, 90, 3);
        due("25: the earlier one is the first day", x.visa(0, 3), 1);
        x.fact(0, 0, 91, 4);
        due("25: the earlier one is behind it", x.visa(0, 4), 0);
        x.fact(0, 1, 100, 5);
        due("25: had by the first day", x.visa(0, 5), 2);
        x.fact(0, 1, 101, 6);
        due("25: had behind it", x.visa(0, 6), 0);
        x.fact(0, 0, 0, 7);
        due("25: had behind it, though foretold in time", x.visa(0, 7), 0);
        x.fact(0, 1, NONE, 8);
        due("25: not had after all", x.visa(0, 8), 2);
        x.fact(0, 0, NONE, 9);
        x.fact(0, 1, 50, 9);
        due("25: had, never asked", x.visa(0, 9), 2);
        due("25: as it was known", x.visa(0, 2), 1);
        x.land(1, 29, 200);
        due("25: the school's land", x.visa(0, 2), 1);
        x.land(1, 30, 200);
        due("25: longer", x.visa(0, 2), 0);
        x.land(1, 0, 29);
        due("25: shorter", x.visa(0, 2), 2);
        due("25: waiting", x.visa(1, 2), NONE);
        due("25: no student", x.visa(2, 2), NONE);
        due("25: student -1", x.visa(-1, 2), NONE);
        due("25: told 360", x.visa(0, 360), NONE);
        due("25: told -1", x.visa(0, -1), NONE);
        StudentSwaps z = new StudentSwaps();
        z.school(0, 0, 1, 0, 0, 99, 0);
        z.school(3, 0, 1, 0, 50, 99, 0);
        z.land(3, 0, 0);
        agree(z, 0, 1, "n1");
        wisher(z, 0, 1);
        wisher(z, 1, 0);
        z.round();
        z.fact(0, 0, 50, 0);
        z.fact(1, 0, 0, 0);
        due("25: the last land", z.visa(0, 0), 2);
        due("25: the first land", z.visa(1, 0), 0);
        StudentSwaps y = new StudentSwaps();
        y.school(2, 0, 1, 0, 0, 99, 0);
        y.school(2, 0, 1, 0, 0, 99, 0);
        agree(y, 0, 1, "n1");
        wisher(y, 0, 1);
        y.round();
        due("25: own land", y.visa(0, 0), 2);
        y.fact(0, 1, 50, 0);
        due("25: own land needs none", y.visa(0, 0), 2);
    }

    private static void there() {
        StudentSwaps x = placedOne();
        x.round();
        x.fact(0, 2, 90, 10);
        x.fact(1, 2, 150, 10);
        x.fact(0, 3, 160, 20);
        due("26: ahead of the term", x.there(1, 99, 10), 0);
        due("26: first day of the term", x.there(1, 100, 10), 1);
        due("26: ahead of the second", x.there(1, 149, 10), 1);
        due("26: both", x.there(1, 150, 10), 2);
        due("26: last day", x.there(1, 199, 10), 2);
        due("26: behind the term", x.there(1, 200, 10), 0);
        due("26: the day ahead of going home", x.there(1, 159, 20), 2);
        due("26: the day of going home", x.there(1, 160, 20), 1);
        due("26: not known yet", x.there(1, 160, 19), 2);
        due("26: nothing known", x.there(1, 160, 9), 0);
        x.fact(1, 3, 140, 30);
        due("26: went home ahead of it", x.there(1, 155, 30), 1);
        due("26: another school", x.there(0, 155, 30), 0);
        due("26: no school", x.there(3, 155, 30), NONE);
        due("26: school -1", x.there(-1, 155, 30), NONE);
        due("26: day 360", x.there(1, 360, 30), NONE);
        due("26: day -1", x.there(1, -1, 30), NONE);
        due("26: told 360", x.there(1, 155, 360), NONE);
        due("26: told -1", x.there(1, 155, -1), NONE);
        x.out(0);
        due("26: out", x.there(1, 155, 20), 1);
        StudentSwaps y = new StudentSwaps();
        y.school(0, 0, 9, 0, 0, 359, 0);
        y.school(0, 0, 9, 0, 0, 359, 0);
        agree(y, 0, 1, "n1");
        wisher(y, 0, 1);
        y.round();
        y.fact(0, 2, 0, 0);
        due("26: the whole year", y.there(1, 0, 0) + y.there(1, 359, 0), 2);
    }

    private static void counts() {
        StudentSwaps x = new StudentSwaps();
        x.school(0, 0, 9, 0, 0, 9, 99999);
        x.school(1, 0, 9, 0, 10, 16, 7);
        agree(x, 0, 1, "n1");
        x.student(0, 0, 0, 0, 1);
        x.wish(0, 1);
        x.student(0, 0, 0, 0, 1);
        x.course(1, 1, 9, 0, 0);
        x.round();
        due("27: nothing earned", x.counts(0, 0, 0), 0);
        due("27: all back", x.counts(0, 1, 0), 99999);
        x.fact(0, 2, 12, 0);
        due("27: 9 * 5 / 7", x.counts(0, 0, 0), 6);
        due("27: 99999 * 2 / 7", x.counts(0, 1, 0), 28571);
        x.fact(0, 3, 14, 1);
        due("27: 9 * 2 / 7", x.counts(0, 0, 1), 2);
        due("27: 99999 * 5 / 7", x.counts(0, 1, 1), 71427);
        due("27: as it was known", x.counts(0, 1, 0), 28571);
        x.fact(0, 3, 11, 2);
        due("27: never there", x.counts(0, 1, 2), 99999);
        x.fact(0, 3, 300, 3);
        x.fact(0, 2, 0, 3);
        due("27: all days", x.counts(0, 0, 3), 9);
        due("27: nothing back", x.counts(0, 1, 3), 0);
        x.fact(0, 2, 300, 4);
        due("27: came too late", x.counts(0, 0, 4), 0);
        due("27: what 2", x.counts(0, 2, 3), NONE);
        due("27: what -1", x.counts(0, -1, 3), NONE);
        due("27: told 360", x.counts(0, 0, 360), NONE);
        due("27: told -1", x.counts(0, 0, -1), NONE);
        due("27: waiting", x.counts(1, 0, 3), NONE);
        due("27: no student", x.counts(2, 0, 3), NONE);
        due("27: student -1", x.counts(-1, 0, 3), NONE);
        x.year();
        due("27: done", x.counts(0, 0, 3), NONE);
    }

    private static void crowded() {
        StudentSwaps x = placedOne();
        x.round();
        x.fact(0, 2, 90, 10);
        x.fact(1, 2, 150, 10);
        due("28: never", x.crowded(1, 10), NONE);
        x.beds(1, 1);
        due("28: two", x.crowded(1, 10), 150);
        due("28: not known yet", x.crowded(1, 9), NONE);
        x.beds(1, 0);
        due("28: one, from the term on", x.crowded(1, 10), 100);
        x.beds(1, 2);
        due("28: just as many", x.crowded(1, 10), NONE);
        x.beds(1, 1);
        x.fact(0, 3, 150, 20);
        due("28: one goes when one comes", x.crowded(1, 20), NONE);
        due("28: another school", x.crowded(0, 20), NONE);
        due("28: no school", x.crowded(3, 20), NONE);
        due("28: school -1", x.crowded(-1, 20), NONE);
        due("28: told 360", x.crowded(1, 360), NONE);
        due("28: told -1", x.crowded(1, -1), NONE);
        StudentSwaps y = new StudentSwaps();
        y.school(0, 0, 9, 0, 0, 359, 0);
        y.school(3, 0, 9, 0, 0, 359, 0);
        agree(y, 0, 1, "n1");
        wisher(y, 0, 1);
        y.round();
        y.beds(1, 0);
        y.fact(0, 2, 359, 0);
        due("28: the last day", y.crowded(1, 0), 359);
        y.fact(0, 2, 0, 0);
        due("28: the first day", y.crowded(1, 0), 0);
    }

    private static void year() {
        StudentSwaps x = placedOne();
        x.out(1);
        wisher(x, 0, 1);
        x.fact(0, 0, 5, 300);
        due("29: 1", x.year(), 1);
        due("29: placed are done", x.look(0, 0), 3);
        due("29: out are waiting", x.look(1, 0), 0);
        due("29: waiting stay", x.look(2, 0), 0);
        due("29: no school", x.look(0, 1), NONE);
        due("29: no agreement", x.look(0, 2), NONE);
        due("29: no wish", x.look(0, 3), NONE);
        due("29: no facts", x.count(8), 0);
        for (int y = 2; y <= 99; y++) {
            due("29: next", x.year(), y);
        }
        due("29: round in the last year", x.round(), 2);
        due("29: above 99", x.year(), NONE);
        due("29: nothing changes", x.look(1, 0), 1);
        due("29: still 99", x.count(0), 99);
    }

    private static void owed() {
        StudentSwaps x = office(3);
        agree(x, 0, 1, "n9;b9;p9999");
        agree(x, 2, 0, "n9;b9;p7;y0-0");
        wisher(x, 0, 1);
        wisher(x, 0, 1);
        wisher(x, 1, 0);
        wisher(x, 0, 2);
        wisher(x, 0, 2);
        x.round();
        due("30: first owes, below 0 second owes", x.owed(0), -9999 - 14);
        due("30: second gets", x.owed(1), 9999);
        due("30: below 0 the first gets", x.owed(2), 14);
        x.year();
        due("30: over years, in force or not", x.owed(2), 14);
        due("30: no school", x.owed(3), 0);
        due("30: school -1", x.owed(-1), 0);
    }

    private static void look() {
        StudentSwaps x = office(4);
        agree(x, 0, 1, "n9;b9");
        x.student(0, 7, 99, 98, 4094);
        x.wish(0, 2);
        x.wish(0, 1);
        x.level(0, 3, 9);
        x.level(0, 0, 0);
        long[] waiting = {0, NONE, NONE, NONE, 0, 7, 99, 98, 4094, 2, 2, 1, NONE, NONE};
        long[] placed = {1, 1, 0, 1, 0, 7, 99, 98, 4094, 2, 2, 1, NONE, NONE};
        for (int what = 0; what < 14; what++) {
            due("31: waiting, " + what, x.look(0, what), waiting[what]);
        }
        x.round();
        for (int what = 0; what < 14; what++) {
            due("31: placed, " + what, x.look(0, what), placed[what]);
        }
        for (int what = 14; what < 20; what++) {
            due("31: " + what, x.look(0, what), NONE);
        }
        due("31: level 0", x.look(0, 20), 0);
        due("31: level 1", x.look(0, 21), NONE);
        due("31: level 3", x.look(0, 23), 9);
        due("31: 24", x.look(0, 24), NONE);
        due("31: -1", x.look(0, -1), NONE);
        due("31: least", x.look(0, Integer.MIN_VALUE), NONE);
        due("31: most", x.look(0, Integer.MAX_VALUE), NONE);
        due("31: no student", x.look(1, 0), NONE);
        due("31: student -1", x.look(-1, 0), NONE);
    }

    private static void about() {
        StudentSwaps x = office(4);
        agree(x, 3, 1, "n1");
        agree(x, 2, 0, "n7;b8;p9;y1-2;(g>1);(t<9)");
        agree(x, 2, 0, "b5");
        due("32: n at first", x.about(2, 2), 1);
        long[] first = {3, 1, 1, 1, 0, 0, 99, 0, 0, 1};
        long[] second = {2, 0, 7, 8, 9, 1, 2, 2, 0, 0};
        for (int what = 0; what < 10; what++) {
            due("32: first, " + what, x.about(0, what), first[what]);
            due("32: second, " + what, x.about(1, what), second[what]);
        }
        wisher(x, 3, 1);
        x.round();
        due("32: placed", x.about(0, 8), 1);
        x.year();
        due("32: placed no more", x.about(0, 8), 0);
        due("32: in force", x.about(1, 9), 1);
        due("32: 10", x.about(0, 10), NONE);
        due("32: -1", x.about(0, -1), NONE);
        due("32: no agreement", x.about(3, 0), NONE);
        due("32: agreement -1", x.about(-1, 0), NONE);
    }

    private static void count() {
        StudentSwaps x = office(8);
        agree(x, 0, 7, "n9;b9");
        x.beds(7, 2);
        x.course(7, 0, 1, 0, 0);
        x.feed(0, 0, 0, 0, 0);
        for (int i = 0; i < 3; i++) {
            wisher(x, 0, 7);
        }
        x.round();
        x.out(2);
        x.fact(0, 0, 0, 0);
        wisher(x, 0);
        wisher(x, 0);
        long[] now = {0, 8, 1, 5, 2, 2, 1, 0, 1, 20};
        for (int what = 0; what < 10; what++) {
            due("33: " + what, x.count(what), now[what]);
        }
        due("33: beds", x.count(17), 2);
        due("33: placed at it", x.count(27), 2);
        due("33: placed elsewhere", x.count(20), 0);
        due("33: courses", x.count(37), 1);
        due("33: courses elsewhere", x.count(30), 0);
        x.year();
        due("33: year", x.count(0), 1);
        due("33: done", x.count(7), 2);
        due("33: placed at it no more", x.count(27), 0);
        for (int what : new int[] {18, 19, 28, 29, 38, 39, 40, -1, Integer.MIN_VALUE, Integer.MAX_VALUE}) {
            due("33: " + what, x.count(what), NONE);
        }
        due("33: seven schools", office(7).count(17), NONE);
    }

    private static void refusedChangeNothing() {
        StudentSwaps x = placedOne();
        x.fact(0, 0, 70, 50);
        x.land(1, 201, 202);
        x.land(1, 20, 10);
        due("refused: land", x.visa(0, 50), 2);
        x.had(0, 3, 1000);
        due("refused: had", x.turn(0, 1, 3, 0), 3);
        x.level(0, 1, 10);
        due("refused: level", x.look(0, 21), NONE);
        x.fact(0, 0, 360, 60);
        due("refused: fact", x.fact(0, 0, 1, 50), true);
        x.wish(1, 1);
        due("refused: wish", x.look(1, 9), 1);
        x.course(1, 0, 0, 0, 0);
        due("refused: course", x.count(31), 0);
    }
}
