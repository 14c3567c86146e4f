/** Each sentence on PLANS, THE ROUND, who is OUT, and TO MEND (promises 15 to 17) that names an edge. */
public final class PlansTest extends Asked {
    public static void main(String[] args) {
        oneOfTheirWishes();
        moreFirstWishes();
        ofLikeOnesMoreSecond();
        thirdAndFourth();
        oneOrAPair();
        oneOrFour();
        firstSeven();
        sevenWithoutWishes();
        placedAsTheyAre();
        balanceOverYears();
        leastRow();
        nineForNothing();
        noneKeeps();
        notNothingForAll();
        makesThosePlaced();
        howManyByRound();
        lastSchoolAndAgreement();
        out();
        outForThisYear();
        sevenToMend();
        outAndDoneAreNoneOfTheSeven();
        othersAsTheyAre();
        fewestMoves();
        nothingToo();
        waitingMayBePlaced();
        fairestOfLikeMoves();
        leastRowOfLikeMoves();
        noPlanKeeps();
        howManyByMend();
        mayNoMore();
        end();
    }

    /** An office of n SCHOOLS with AGREEMENTS between 0 and each other one (1's is 0), wide bounds and no BEDS. */
    private static StudentSwaps wide(int n) {
        StudentSwaps x = office(n);
        for (int h = 1; h < n; h++) {
            agree(x, 0, h, "n9;b99");
            x.beds(h, 0);
        }
        return x;
    }

    /** The WISHES that are served, one digit each, 9 for nothing, in front a 1. */
    private static long row(StudentSwaps x, int students) {
        long row = 1;
        for (int s = 0; s < students; s++) {
            row = 10 * row + (x.look(s, 3) == NONE ? 9 : x.look(s, 3));
        }
        return row;
    }

    private static void oneOfTheirWishes() {
        sentence("A PLAN gives each of some STUDENTS one of their WISHES to which they MAY go, or nothing.");
        StudentSwaps x = office(4);
        agree(x, 0, 1, "n9;b9;(g>50)");
        agree(x, 0, 3, "n9;b9");
        wisher(x, 0, 1);
        wisher(x, 0, 2);
        wisher(x, 0, 1, 2, 3);
        wisher(x, 0);
        x.student(0, 0, 51, 0, 0);
        x.wish(4, 1);
        due("two", x.round(), 2);
        due("their rows", row(x, 5), 199290);
        due("no wish, no place", x.look(3, 0), 0);
        due("only one of them", x.look(2, 1), 3);
    }

    private static void moreFirstWishes() {
        sentence("It is FAIRER than another one if it serves more first WISHES");
        StudentSwaps x = wide(4);
        x.beds(1, 1);
        x.beds(2, 1);
        wisher(x, 0, 1, 2);
        wisher(x, 0, 3, 1);
        due("one first is fairer than two seconds", x.round(), 1);
        due("row", row(x, 2), 109);
        StudentSwaps y = wide(4);
        y.beds(1, 1);
        y.beds(2, 1);
        wisher(y, 0, 3, 1);
        wisher(y, 0, 1, 2);
        due("whoever is the first", y.round(), 1);
        due("row", row(y, 2), 190);
        StudentSwaps z = wide(5);
        for (int h = 1; h < 4; h++) {
            z.beds(h, 1);
        }
        wisher(z, 0, 4, 1);
        wisher(z, 0, 4, 2);
        wisher(z, 0, 1, 3);
        wisher(z, 0, 2, 3);
        due("two firsts and no second", z.round(), 2);
        due("row", row(z, 4), 19900);
    }

    private static void ofLikeOnesMoreSecond() {
        sentence("of like ones more second ones, third, fourth ones");
        StudentSwaps x = wide(4);
        x.beds(1, 1);
        x.beds(2, 1);
        wisher(x, 0, 1);
        wisher(x, 0, 1, 2);
        due("a first and a second", x.round(), 2);
        due("not the least row", row(x, 2), 101);
        StudentSwaps y = wide(5);
        y.beds(1, 1);
        y.beds(2, 1);
        y.beds(3, 1);
        wisher(y, 0, 1, 4, 3);
        wisher(y, 0, 1, 2);
        due("a second is fairer than a third", y.round(), 2);
        due("row", row(y, 2), 101);
        StudentSwaps z = wide(4);
        z.beds(1, 1);
        z.beds(2, 1);
        wisher(z, 0, 1, 3, 2);
        wisher(z, 0, 1, 2);
        due("so the first one waits no more than needed", z.round(), 2);
        due("row, too", row(z, 2), 101);
    }

    private static void thirdAndFourth() {
        sentence("third, fourth ones");
        StudentSwaps x = wide(7);
        x.beds(1, 1);
        x.beds(2, 1);
        wisher(x, 0, 5, 6, 1, 2);
        wisher(x, 0, 5, 6, 4, 1);
        due("one third is fairer than two fourths", x.round(), 1);
        due("row", row(x, 2), 129);
        StudentSwaps y = wide(7);
        y.beds(1, 1);
        y.beds(2, 1);
        wisher(y, 0, 5, 1, 2);
        wisher(y, 0, 5, 6, 1);
        due("one second is fairer than two thirds", y.round(), 1);
        due("row", row(y, 2), 119);
        StudentSwaps z = wide(7);
        z.beds(1, 1);
        z.beds(2, 2);
        for (int s = 0; s < 3; s++) {
            wisher(z, 0, 4, 5, 1, 2);
        }
        due("a third and two fourths", z.round(), 3);
        due("row", row(z, 3), 1233);
    }

    /**
     * SCHOOL 1 has one bed: student 0 can have it as this WISH, or students 1 and 2 swap (b0: neither alone) as that one.
     */
    private static StudentSwaps oneBed(int wishOfOne, int wishOfPair) {
        StudentSwaps x = office(8);
        agree(x, 0, 1, "n9;b0");
        agree(x, 2, 1, "n9;b9");
        x.beds(1, 1);
        int[] homes = {2, 0, 1};
        int[] wishes = {1, 1, 0};
        for (int s = 0; s < 3; s++) {
            wisher(x, homes[s]);
            for (int w = 0; w < (s == 0 ? wishOfOne : wishOfPair); w++) {
                x.wish(s, 5 + w);
            }
            x.wish(s, wishes[s]);
        }
        return x;
    }

    private static void oneOrAPair() {
        sentence("if it serves more first WISHES; of like ones more second ones, third, fourth ones");
        for (int one = 0; one < 4; one++) {
            for (int pair = 0; pair < 4; pair++) {
                StudentSwaps x = oneBed(one, pair);
                boolean isPair = pair <= one;
                due("wish " + one + " of one, " + pair + " of two", x.round(), isPair ? 2 : 1);
                due("their rows", row(x, 3), isPair ? 1900 + 11 * pair : 1099 + 100 * one);
            }
        }
        StudentSwaps y = oneBed(0, 1);
        agree(y, 2, 3, "n9;b9");
        y.wish(0, 3);
        due("one first is fairer than three seconds", y.round(), 1);
        due("its row", row(y, 3), 1099);
    }

    private static void wishBehind(StudentSwaps x, int s, int others, int h) {
        for (int w = 0; w < others; w++) {
            x.wish(s, 5 + w);
        }
        x.wish(s, h);
    }

    /** The last of four can have the only bed of SCHOOL 1; or go elsewhere, so that all four go (b0: in pairs). */
    private static void oneOrFour() {
        sentence("It is FAIRER than another one if it serves more first WISHES; of like ones more second ones, third,"
                + " fourth ones.");
        for (int w = 0; w < 3; w++) {
            StudentSwaps x = office(8);
            agree(x, 0, 1, "n9;b0");
            agree(x, 2, 1, "n9;b9");
            agree(x, 2, 3, "n9;b0");
            x.beds(1, 1);
            wishBehind(x, wisher(x, 0), w + 1, 1);
            wishBehind(x, wisher(x, 1), w + 1, 0);
            wishBehind(x, wisher(x, 3), w + 1, 2);
            wishBehind(x, wisher(x, 2), w, 1);
            x.wish(3, 3);
            due("one wish " + w + " is fairer than four of the next", x.round(), 1);
            due("its row", row(x, 4), 19990 + w);
            x.out(3);
            wishBehind(x, wisher(x, 2), w, 4);
            x.wish(4, 3);
            due("without it, four of the next", x.round(), 4);
        }
    }

    private static void firstSeven() {
        sentence("THE ROUND: the first seven who are WAITING, by numbers");
        StudentSwaps x = wide(3);
        x.beds(1, 9);
        x.beds(2, 9);
        for (int s = 0; s < 16; s++) {
            wisher(x, 0, 1 + s % 2);
        }
        due("seven", x.round(), 7);
        due("the seventh", x.look(6, 0), 1);
        due("the eighth waits", x.look(7, 0), 0);
        due("seven more", x.round(), 7);
        due("the fourteenth", x.look(13, 0), 1);
        due("the fifteenth waits", x.look(14, 0), 0);
        due("two more", x.round(), 2);
        due("nobody is left", x.round(), 0);
        StudentSwaps y = wide(2);
        y.beds(1, 1);
        for (int s = 0; s < 8; s++) {
            wisher(y, 0, 1);
        }
        y.out(0);
        y.out(3);
        due("one bed", y.round(), 1);
        due("the first who waits has it", y.look(1, 1), 1);
    }

    private static void sevenWithoutWishes() {
        sentence("the first seven who are WAITING, by numbers");
        StudentSwaps x = wide(2);
        x.beds(1, 9);
        for (int s = 0; s < 7; s++) {
            wisher(x, 0);
        }
        wisher(x, 0, 1);
        due("seven without wishes are the first seven", x.round(), 0);
        due("the eighth waits", x.look(7, 0), 0);
        x.out(6);
        due("one less", x.round(), 1);
        due("now it is the seventh", x.look(7, 0), 1);
    }

    private static void placedAsTheyAre() {
        sentence("with those PLACED already as they are");
        StudentSwaps x = wide(3);
        x.beds(1, 1);
        x.beds(2, 1);
        wisher(x, 0, 1, 2);
        due("placed", x.round(), 1);
        wisher(x, 0, 1);
        due("nobody makes room", x.round(), 0);
        due("as they are", row(x, 2), 109);
        StudentSwaps y = office(2);
        agree(y, 0, 1, "n9;b0");
        wisher(y, 0, 1);
        wisher(y, 1, 0);
        y.round();
        wisher(y, 0, 1);
        due("balanced already", y.round(), 0);
        wisher(y, 1, 0);
        due("two more", y.round(), 2);
    }

    private static void balanceOverYears() {
        sentence("of all PLANS by which all bounds are KEPT");
        StudentSwaps x = office(2);
        agree(x, 0, 1, "n9;b2");
        for (int s = 0; s < 5; s++) {
            wisher(x, 0, 1);
        }
        due("two of five", x.round(), 2);
        x.year();
        due("the years before count", x.round(), 0);
        wisher(x, 1, 0);
        due("one comes, one more goes", x.round(), 2);
        due("balance", x.balance(0), 2);
        x.year();
        due("still", x.round(), 0);
        due("kept", x.kept(), 1);
    }

    private static void leastRow() {
        sentence("of like ones the least row");
        StudentSwaps x = wide(3);
        x.beds(1, 1);
        x.beds(2, 1);
        wisher(x, 0, 1, 2);
        wisher(x, 0, 1, 2);
        x.round();
        due("0 1, not 1 0", row(x, 2), 101);
        StudentSwaps y = wide(2);
        y.beds(1, 3);
        for (int s = 0; s < 7; s++) {
            wisher(y, 0, 1);
        }
        y.round();
        due("the first three", row(y, 7), 10009999);
        StudentSwaps z = wide(5);
        for (int h = 1; h < 5; h++) {
            z.beds(h, 1);
        }
        for (int s = 0; s < 5; s++) {
            wisher(z, 0, 1, 2, 3, 4);
        }
        z.round();
        due("each a wish", row(z, 5), 101239);
    }

    private static void nineForNothing() {
        sentence("(each the number of its WISH from 0 on, 9 for nothing)");
        StudentSwaps x = wide(5);
        x.beds(4, 1);
        wisher(x, 0, 1, 2, 3, 4);
        wisher(x, 0, 1, 2, 3, 4);
        x.round();
        due("3 and 9, not 9 and 3", row(x, 2), 139);
        StudentSwaps y = wide(2);
        y.beds(1, 1);
        wisher(y, 0);
        wisher(y, 0, 1);
        wisher(y, 0, 1);
        y.round();
        due("nothing is none of the wishes", row(y, 3), 1909);
    }

    private static void noneKeeps() {
        sentence("If none keeps them (not even nothing for all), it is nothing for all.");
        StudentSwaps x = wide(3);
        x.beds(1, 2);
        x.beds(2, 9);
        wisher(x, 0, 1);
        wisher(x, 0, 1);
        x.round();
        x.beds(1, 1);
        wisher(x, 0, 2);
        due("too many are at another school", x.round(), 0);
        due("nothing", x.look(2, 0), 0);
        due("those who were placed still are", x.count(5), 2);
        x.beds(1, 2);
        due("kept again", x.round(), 1);
        StudentSwaps y = office(3);
        agree(y, 0, 1, "n9;b0");
        agree(y, 0, 2, "n9;b9");
        wisher(y, 0, 1);
        wisher(y, 1, 0);
        y.round();
        y.out(1);
        wisher(y, 0, 2);
        due("a balance that nobody mends", y.round(), 0);
        due("not kept", y.kept(), 0);
    }

    private static void notNothingForAll() {
        sentence("(not even nothing for all)");
        StudentSwaps x = office(3);
        agree(x, 0, 1, "n9;b0");
        wisher(x, 0, 1);
        wisher(x, 1, 0);
        x.round();
        x.out(1);
        due("nothing for all does not keep them", x.kept(), 0);
        wisher(x, 1, 2, 0);
        wisher(x, 1, 2, 0);
        due("but one does", x.round(), 1);
        due("the least row", x.look(2, 3) * 10 + x.look(3, 0), 10);
        due("kept", x.kept(), 1);
        StudentSwaps y = office(3);
        agree(y, 1, 0, "n9;b0");
        wisher(y, 0, 1);
        wisher(y, 1, 0);
        y.round();
        y.out(1);
        wisher(y, 1, 2, 0);
        due("the only one who waits", y.round(), 1);
        due("balances it", y.balance(0) * 10 + y.kept(), 1);
    }

    private static void makesThosePlaced() {
        sentence("It makes those PLACED.");
        StudentSwaps x = office(4);
        agree(x, 1, 0, "n9;b9;y5-6");
        agree(x, 3, 0, "n9;b9");
        agree(x, 0, 1, "n9;b9");
        wisher(x, 0, 2, 3);
        wisher(x, 1, 0);
        due("both", x.round(), 2);
        due("state", x.look(0, 0) * 10 + x.look(1, 0), 11);
        due("school", x.look(0, 1) * 10 + x.look(1, 1), 30);
        due("agreement", x.look(0, 2) * 10 + x.look(1, 2), 12);
        due("wish", x.look(0, 3) * 10 + x.look(1, 3), 10);
        due("by each", x.about(0, 8) * 100 + x.about(1, 8) * 10 + x.about(2, 8), 11);
        due("at each", x.count(20) * 1000 + x.count(21) * 100 + x.count(22) * 10 + x.count(23), 1001);
    }

    private static void howManyByRound() {
        sentence("THE ROUND: how many are PLACED by it.");
        due("nobody is there", new StudentSwaps().round(), 0);
        StudentSwaps x = wide(2);
        due("nobody waits", x.round(), 0);
        x.beds(1, 9);
        wisher(x, 0, 1);
        due("one", x.round(), 1);
        due("none by this one", x.round(), 0);
        wisher(x, 0, 1);
        wisher(x, 0, 1);
        due("two by this one", x.round(), 2);
        x.out(0);
        due("who is out is not placed", x.round(), 0);
        x.year();
        due("one in the next year", x.round(), 1);
    }

    private static void lastSchoolAndAgreement() {
        sentence("AGREEMENTS 0 to 11, each between two SCHOOLS");
        StudentSwaps x = office(8);
        for (int i = 0; i < 11; i++) {
            agree(x, 0, 1, "n9;b9");
        }
        agree(x, 7, 6, "n1;b1");
        for (int i = 0; i < 2; i++) {
            wisher(x, 7, 6);
            wisher(x, 6, 7);
        }
        due("one each way by the last one", x.round(), 2);
        due("rows", row(x, 4), 10099);
        due("by it", x.about(11, 8), 2);
        x.year();
        x.out(3);
        due("balanced, so one more", x.round(), 1);
        due("one ahead", x.balance(11), 1);
        x.beds(6, 0);
        due("no bed in it", x.kept(), 0);
    }

    private static void out() {
        sentence("A STUDENT who is PLACED or WAITING is OUT: true; false: no such one.");
        takes("student, of two", 0, 1, n -> placedOne().out(n));
        due("nobody is there", office(2).out(0), false);
        StudentSwaps x = placedOne();
        due("placed", x.out(0), true);
        due("waiting", x.out(1), true);
        due("out already", x.out(0), false);
        due("both", x.count(6), 2);
        for (int s = 0; s < 2; s++) {
            due("state", x.look(s, 0), 2);
            for (int what = 1; what < 4; what++) {
                due("neither school, agreement nor wish", x.look(s, what), NONE);
            }
            due("the wishes stay", x.look(s, 10), 1);
        }
        StudentSwaps y = placedOne();
        y.year();
        due("done", y.out(0), false);
        due("still done", y.look(0, 0), 3);
        due("still in the balance", y.balance(0), 1);
    }

    private static void outForThisYear() {
        sentence("2 OUT (for this YEAR)");
        StudentSwaps x = placedOne();
        x.out(0);
        x.out(1);
        due("not in the round", x.round(), 0);
        due("nor in a mend", x.mend(), 0);
        due("nor by wishes", x.wish(0, 2), false);
        x.year();
        due("waiting again", x.count(4), 2);
        due("in the round again", x.round(), 2);
    }

    private static void sevenToMend() {
        sentence("TO MEND: of those PLACED or WAITING the first seven, by numbers (others as they are)");
        StudentSwaps x = wide(2);
        x.beds(1, 9);
        for (int s = 0; s < 9; s++) {
            wisher(x, 0, 1);
        }
        due("all", x.round() + x.round(), 9);
        x.beds(1, 1);
        due("two can't be moved", x.mend(), NONE);
        due("all are where they were", x.count(21), 9);
        x.beds(1, 2);
        due("seven can", x.mend(), 7);
        due("the seventh was", x.look(6, 0), 0);
        due("the eighth was not", x.look(7, 0), 1);
    }

    private static void outAndDoneAreNoneOfTheSeven() {
        sentence("of those PLACED or WAITING the first seven, by numbers");
        StudentSwaps x = wide(2);
        x.beds(1, 9);
        wisher(x, 0, 1);
        wisher(x, 0, 1);
        x.round();
        x.year();
        for (int s = 2; s < 11; s++) {
            wisher(x, 0, 1);
        }
        x.out(2);
        x.out(3);
        due("seven", x.round(), 7);
        x.beds(1, 0);
        due("two are done, two are out, seven are moved", x.mend(), 7);
        due("none is there", x.count(21), 0);
    }

    private static void othersAsTheyAre() {
        sentence("(others as they are)");
        StudentSwaps x = wide(3);
        x.beds(1, 9);
        x.beds(2, 9);
        wisher(x, 0, 1);
        x.round();
        for (int s = 1; s < 7; s++) {
            wisher(x, 0);
        }
        wisher(x, 0, 2);
        due("the eighth is placed, six wait", x.round(), 1);
        x.beds(2, 0);
        due("those who wait are of the seven, so the eighth can't be moved", x.mend(), NONE);
        due("it is as it was", x.look(7, 1), 2);
        x.out(1);
        due("one less", x.mend(), 1);
        due("now it is the seventh", x.look(7, 0), 0);
    }

    private static void fewestMoves() {
        sentence("that by which fewest have another SCHOOL than they have");
        StudentSwaps x = wide(4);
        x.beds(2, 1);
        x.beds(3, 1);
        wisher(x, 0, 1, 2);
        wisher(x, 0, 1, 3);
        due("both second wishes", x.round(), 2);
        x.beds(1, 9);
        due("nothing has to be mended, however fair", x.mend(), 0);
        due("as they were", row(x, 2), 111);
        x.beds(3, 0);
        due("one has to", x.mend(), 1);
        due("only that one", row(x, 2), 110);
        StudentSwaps y = wide(4);
        y.beds(1, 2);
        y.beds(2, 1);
        y.beds(3, 9);
        wisher(y, 0, 1);
        wisher(y, 0, 1, 2);
        wisher(y, 0, 2, 3);
        due("all first wishes", y.round(), 3);
        y.beds(1, 1);
        due("nothing for one rather than two who move", y.mend(), 1);
        due("the second waits", row(y, 3), 1090);
    }

    private static void nothingToo() {
        sentence("fewest have another SCHOOL than they have (nothing, too)");
        StudentSwaps x = wide(3);
        x.beds(1, 1);
        wisher(x, 0, 1);
        wisher(x, 0, 1);
        x.round();
        x.beds(1, 9);
        due("to have a school at last would be a move", x.mend(), 0);
        due("so the second waits", x.look(1, 0), 0);
        x.beds(1, 0);
        due("to have none any more is one", x.mend(), 1);
        due("both wait", x.count(4), 2);
        due("nor does anybody move then", x.mend(), 0);
    }

    private static void waitingMayBePlaced() {
        sentence("that by which fewest have another SCHOOL than they have (nothing, too)");
        StudentSwaps x = office(2);
        agree(x, 0, 1, "n9;b0");
        for (int s = 0; s < 2; s++) {
            wisher(x, 0, 1);
            wisher(x, 1, 0);
        }
        x.round();
        x.out(1);
        x.out(3);
        wisher(x, 1, 0);
        due("one placed, or one moved: two moves are needed all the same", x.mend(), 2);
        due("fairer: one who waited is placed, one is moved", row(x, 5), 109990);
        due("kept", x.kept(), 1);
        StudentSwaps y = office(2);
        agree(y, 0, 1, "n9;b0");
        wisher(y, 0, 1);
        wisher(y, 1, 0);
        y.round();
        y.out(1);
        wisher(y, 1, 0);
        due("one who waited is placed rather than one moved", y.mend(), 1);
        due("row", row(y, 3), 1090);
    }

    private static void fairestOfLikeMoves() {
        sentence("of like ones the FAIREST; of like ones the least row. If there is none, nothing changes.");
        StudentSwaps x = wide(4);
        x.beds(1, 2);
        wisher(x, 0, 1, 2);
        wisher(x, 0, 3, 1);
        x.round();
        due("a first and a second", row(x, 2), 101);
        x.beds(1, 1);
        due("one of them moves, to nothing", x.mend(), 1);
        due("the first wish stays served", row(x, 2), 109);
        StudentSwaps y = wide(4);
        y.beds(1, 2);
        wisher(y, 0, 3, 1);
        wisher(y, 0, 1, 2);
        y.round();
        y.beds(1, 1);
        y.mend();
        due("whoever it is", row(y, 2), 190);
        StudentSwaps z = wide(4);
        z.beds(1, 1);
        wisher(z, 0, 2, 3, 1);
        z.round();
        z.beds(1, 0);
        z.beds(2, 1);
        z.beds(3, 1);
        due("one who has to move", z.mend(), 1);
        due("goes to the best that can be", z.look(0, 3), 0);
    }

    private static void leastRowOfLikeMoves() {
        sentence("of like ones the least row. If there is none, nothing changes.");
        StudentSwaps x = wide(3);
        x.beds(1, 3);
        for (int s = 0; s < 3; s++) {
            wisher(x, 0, 1, 2);
        }
        x.round();
        x.beds(1, 2);
        x.beds(2, 1);
        due("one moves", x.mend(), 1);
        due("the last of three", row(x, 3), 1001);
        x.beds(2, 0);
        due("one moves again", x.mend(), 1);
        due("to nothing", row(x, 3), 1009);
        x.beds(1, 1);
        due("and one more", x.mend(), 1);
        due("the second", row(x, 3), 1099);
    }

    private static void noPlanKeeps() {
        sentence("TO MEND: how many have another SCHOOL then; NONE: no PLAN keeps the bounds.");
        StudentSwaps x = office(2);
        agree(x, 0, 1, "n9;b0;y0-1");
        wisher(x, 0, 1);
        wisher(x, 1, 0);
        x.round();
        x.out(1);
        x.year();
        x.out(1);
        wisher(x, 0, 1);
        due("a balance of those who are done", x.mend(), NONE);
        due("nothing changes", x.look(0, 0) * 100 + x.look(1, 0) * 10 + x.look(2, 0), 320);
        wisher(x, 1, 0);
        due("but one who waits may balance it", x.mend(), 1);
        due("it is the one of the other school", x.look(3, 1), 0);
        x.out(3);
        due("without that one there is none again", x.mend(), NONE);
        x.year();
        due("not in force any more", x.mend(), 0);
        StudentSwaps y = wide(2);
        y.beds(1, 8);
        for (int s = 0; s < 8; s++) {
            wisher(y, 0, 1);
        }
        y.round();
        y.round();
        y.fact(3, 2, 100, 7);
        y.beds(1, 0);
        due("the eighth has no bed", y.mend(), NONE);
        due("all are where they were", y.count(21), 8);
        due("and nothing is forgotten", y.known(3, 2, 7), 100);
    }

    private static void howManyByMend() {
        sentence("TO MEND: how many have another SCHOOL then");
        due("nobody is there", new StudentSwaps().mend(), 0);
        due("no need", placedOne().mend(), 0);
        for (int gone = 1; gone <= 7; gone++) {
            StudentSwaps y = wide(3);
            y.beds(1, 7);
            for (int s = 0; s < 7; s++) {
                wisher(y, 0, 1, 2);
            }
            y.round();
            y.beds(1, 7 - gone);
            y.beds(2, gone / 2);
            due("so many move", y.mend(), gone);
            due("some to another school", y.count(22), gone / 2);
            due("the others wait", y.count(4), gone - gone / 2);
        }
    }

    private static void mayNoMore() {
        sentence("one of their WISHES to which they MAY go, or nothing");
        StudentSwaps x = office(3);
        agree(x, 0, 1, "n9;b9;(t>4)");
        agree(x, 0, 2, "n9;b9");
        wisher(x, 0, 1, 2);
        x.level(0, 1, 5);
        x.round();
        x.level(0, 1, 4);
        due("the bounds are kept all the same", x.kept(), 1);
        due("who may not go there any more has to move", x.mend(), 1);
        due("to where they may", x.look(0, 1), 2);
        x.level(0, 1, 9);
        due("nor back", x.mend(), 0);
        due("still there", x.look(0, 1), 2);
    }
}
