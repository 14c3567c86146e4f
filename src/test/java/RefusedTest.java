import java.util.ArrayList;
import java.util.List;

/** A call that is refused changes nothing, and calls that only ask change nothing, either: all that can be seen stays. */
public final class RefusedTest extends Asked {
    private static final int[] WRONG = {-2, -1, 8, 12, 16, 360, 5000, 100000, 1 << 20, Integer.MIN_VALUE, Integer.MAX_VALUE};

    /** A call; true if it was refused. */
    private interface Call {
        boolean isRefused(StudentSwaps x);
    }

    public static void main(String[] args) {
        refusedOnes();
        refusedByNumbers();
        fullOnes();
        faults();
        askedTwice();
        sameCallsSameAnswers();
        memoryIsItsOwn();
        end();
    }

    /** PLACED, WAITING, OUT and DONE ones, FACTS, COURSES, bytes of the tape; some 60 calls. */
    private static StudentSwaps world() {
        StudentSwaps x = new StudentSwaps();
        x.school(0, 0, 3, 0, 0, 99, 1000);
        x.school(1, 1, 2, 1, 50, 149, 2000);
        x.school(1, 2, 4, 2, 60, 260, 3000);
        x.land(1, 5, 40);
        x.had(1, 4, 7);
        agree(x, 0, 1, "n3;b3;p40;(g>9)");
        agree(x, 2, 0, "n2;b5;p7;y0-5;(g<90|t=3)");
        x.course(1, 3, 4, 0, 1);
        x.course(1, 6, 5, 2, 2);
        x.course(2, 12, 6, 0, 4);
        x.cancel(1, 0, true);
        x.student(0, 0, 50, 10, 15);
        x.wish(0, 1);
        x.round();
        x.year();
        x.student(0, 1, 60, 20, 7);
        x.wish(1, 1);
        x.wish(1, 2);
        x.student(2, 2, 70, 30, 3);
        x.wish(2, 0);
        x.level(1, 1, 4);
        x.level(2, 0, 6);
        x.student(1, 3, 80, 40, 1);
        x.student(1, 4, 5, 50, 2);
        x.wish(4, 0);
        x.out(3);
        x.round();
        x.fact(1, 0, 20, 30);
        x.fact(1, 1, 45, 40);
        x.fact(1, 2, 52, 60);
        x.fact(2, 2, 10, 60);
        x.fact(1, 3, 120, 61);
        x.feed(word("n1;b", 0), word("2;p3", 0), 0, 0, 0);
        return x;
    }

    /** All that can be seen, by some 330 calls. */
    private static List<Long> seen(StudentSwaps x) {
        List<Long> seen = new ArrayList<>();
        for (int what = 0; what < 10; what++) {
            seen.add((long) x.count(what));
        }
        for (int h = 0; h < 4; h++) {
            seen.add((long) x.count(10 + h));
            seen.add((long) x.count(20 + h));
            seen.add((long) x.count(30 + h));
            seen.add(x.owed(h));
            for (int told : new int[] {59, 60, 359}) {
                seen.add((long) x.there(h, 70, told));
                seen.add((long) x.crowded(h, told));
            }
        }
        for (int s = 0; s < 6; s++) {
            seeStudent(x, s, seen);
        }
        for (int a = 0; a < 3; a++) {
            seen.add((long) x.balance(a));
            for (int what = 0; what < 10; what++) {
                seen.add((long) x.about(a, what));
            }
            for (int what = 0; what < 3; what++) {
                seen.add((long) x.terms(a, 0, what));
            }
            seen.add((long) x.meets(a, 9, 3, 0, 0));
            seen.add((long) x.meets(a, 95, 3, 0, 0));
        }
        for (int mark = 0; mark <= 10; mark += 2) {
            seen.add((long) x.turn(0, 1, mark, 0));
            seen.add((long) x.turn(1, 2, mark, 1));
            seen.add((long) x.turn(3, 0, mark, 2));
        }
        seen.add((long) x.kept());
        return seen;
    }

    private static void seeStudent(StudentSwaps x, int s, List<Long> seen) {
        for (int what = 0; what < 12; what++) {
            seen.add((long) x.look(s, what));
        }
        for (int tongue = 0; tongue < 3; tongue++) {
            seen.add((long) x.look(s, 20 + tongue));
        }
        for (int what = 0; what < 4; what++) {
            seen.add((long) x.known(s, what, 359));
        }
        seen.add((long) x.visa(s, 30));
        seen.add((long) x.visa(s, 359));
        seen.add((long) x.counts(s, 0, 60));
        seen.add((long) x.counts(s, 1, 359));
        for (int h = 0; h < 3; h++) {
            seen.add((long) x.may(s, h));
            for (int what = 0; what < 3; what++) {
                seen.add((long) x.study(s, h, what));
            }
        }
    }

    private static void refused(String what, Call call) {
        StudentSwaps x = world();
        due(what + " is refused", call.isRefused(x), true);
        due(what + " changes nothing", seen(x).equals(seen(world())), true);
        due(what + " leaves the latest day", x.fact(1, 0, 1, 60), false);
        due(what + " leaves it so", x.fact(1, 0, 1, 61), true);
        due(what + " leaves the bytes", x.agreement(0, 1, 8) == 2 && x.about(2, 4) == 3, true);
    }

    private static void refusedOnes() {
        sentence("A call that is refused (NONE, false) changes nothing but the tape, where it is told.");
        refused("land", x -> !x.land(1, 41, 40));
        refused("had", x -> !x.had(1, 4, 1000));
        refused("school", x -> x.school(0, 0, 0, 0, 5, 5, 0) == NONE);
        refused("beds", x -> !x.beds(0, 10));
        refused("agreement of one school", x -> x.agreement(0, 0, 8) == NONE);
        refused("agreement of no bytes", x -> x.agreement(0, 1, 0) == NONE);
        refused("agreement of too many bytes", x -> x.agreement(0, 1, 21) == NONE);
        refused("student", x -> x.student(3, 0, 0, 0, 0) == NONE);
        refused("level", x -> !x.level(1, 1, 10));
        refused("wish, home", x -> !x.wish(4, 1));
        refused("wish, it is one", x -> !x.wish(4, 0));
        refused("wish, placed", x -> !x.wish(2, 1));
        refused("wish, out", x -> !x.wish(3, 0));
        refused("wish, done", x -> !x.wish(0, 2));
        refused("out, out", x -> !x.out(3));
        refused("out, done", x -> !x.out(0));
        refused("course", x -> x.course(1, 0, 0, 0, 0) == NONE);
        refused("cancel, it is so", x -> !x.cancel(1, 0, true));
        refused("cancel, it is given", x -> !x.cancel(1, 1, false));
        refused("cancel, no such course", x -> !x.cancel(0, 0, true));
        refused("fact, told ahead", x -> !x.fact(1, 0, 1, 60));
        refused("fact, waiting", x -> !x.fact(4, 0, 1, 200));
        refused("fact, out", x -> !x.fact(3, 0, 1, 200));
        refused("fact, done", x -> !x.fact(0, 0, 1, 200));
    }

    private static void refusedByNumbers() {
        sentence("changes nothing but the tape, where it is told");
        for (int n : WRONG) {
            refused("land " + n, x -> !x.land(n, 1, 2));
            refused("most " + n, x -> !x.land(1, 200, n));
            refused("scale " + n, x -> !x.had(n, 0, 5));
            refused("mark " + n, x -> !x.had(0, n == 8 ? 11 : n, 5));
            refused("school's land " + n, x -> x.school(n, 0, 0, 0, 0, 1, 0) == NONE);
            refused("beds of " + n, x -> !x.beds(n, 5));
            refused("agreement with " + n, x -> x.agreement(0, n, 8) == NONE);
            refused("agreement of " + n, x -> x.agreement(n, 0, 8) == NONE);
            refused("student of " + n, x -> x.student(n, 0, 0, 0, 0) == NONE);
            refused("level of " + n, x -> !x.level(n, 0, 5));
            refused("tongue " + n, x -> !x.level(1, n, 5));
            refused("wish of " + n, x -> !x.wish(n, 0));
            refused("wish for " + n, x -> !x.wish(4, n));
            refused("out " + n, x -> !x.out(n));
            refused("course of " + n, x -> x.course(n, 1, 1, 0, 0) == NONE);
            refused("cancel of " + n, x -> !x.cancel(n, 0, true));
            refused("cancel " + n, x -> !x.cancel(1, n, true));
            refused("fact of " + n, x -> !x.fact(n, 0, 5, 61));
            refused("fact " + n, x -> !x.fact(1, n, 5, 61));
            refused("day " + n, x -> !x.fact(1, 0, Math.abs(n) < 20 ? -2 : n, 61));
            refused("told " + n, x -> !x.fact(1, 0, 5, n));
        }
    }

    private static void fullOnes() {
        sentence("NONE if that would be more than 80");
        StudentSwaps x = world();
        for (int i = 0; i < 3; i++) {
            x.feed(0, 0, 0, 0, 0);
        }
        due("full", x.feed(-1, -1, -1, -1, -1), NONE);
        due("as many as before", x.count(9), 80);
        due("and the same", x.agreement(0, 1, 8), 2);
        sentence("8 are there");
        StudentSwaps y = office(8);
        due("full", y.school(1, 1, 1, 1, 1, 2, 1), NONE);
        due("nothing changes", seen(y).equals(seen(office(8))), true);
        sentence("6 are there");
        StudentSwaps z = sixCourses();
        due("full", z.course(1, 4095, 1, 0, 0), NONE);
        due("nothing changes", seen(z).equals(seen(sixCourses())), true);
    }

    private static StudentSwaps sixCourses() {
        StudentSwaps x = office(2);
        x.student(0, 0, 0, 0, 4095);
        for (int c = 0; c < 6; c++) {
            x.course(1, 1, 1, 0, 0);
        }
        return x;
    }

    private static void faults() {
        sentence("(there is none then)");
        StudentSwaps without = world();
        without.agreement(0, 1, 8);
        List<Long> due = seen(without);
        for (String text : new String[] {"x", "n", "n10", "n9;b9;p9;y9-8", "(((((((", "n2;b2;p2;y2-2;(g<5"}) {
            StudentSwaps x = world();
            x.agreement(0, 1, 8);
            due(text, agree(x, 0, 1, text) < NONE, true);
            due("nothing changes by " + text, seen(x).equals(due), true);
        }
    }

    private static void askedTwice() {
        sentence("Nothing is promised beyond the answers and state changes described above");
        StudentSwaps x = world();
        for (int s = 0; s < 3; s++) {
            seeStudent(x, s, new ArrayList<>());
        }
        x.kept();
        x.terms(0, 1, 1);
        x.crowded(1, 359);
        due("asked again", seen(x).equals(seen(world())), true);
        StudentSwaps y = world();
        due("nothing to mend", y.mend(), 0);
        due("nobody to place", y.round(), 0);
        due("nor was anybody moved", seen(y).equals(seen(world())), true);
    }

    private static void sameCallsSameAnswers() {
        sentence("All memory is the office's own.");
        due("two offices alike", seen(world()).equals(seen(world())), true);
    }

    private static void memoryIsItsOwn() {
        sentence("All memory is the office's own.");
        List<Long> before = seen(world());
        StudentSwaps one = world();
        StudentSwaps other = world();
        other.year();
        other.beds(0, 0);
        other.had(0, 0, 999);
        other.land(0, 0, 0);
        other.feed(1, 2, 3, 4, 5);
        other.student(0, 0, 0, 0, 0);
        other.level(1, 0, 9);
        other.course(0, 1, 1, 1, 1);
        other.cancel(1, 0, false);
        other.round();
        other.mend();
        due("what one does, the other one does not see", seen(one).equals(before), true);
        due("but itself", seen(other).equals(before), false);
    }
}
