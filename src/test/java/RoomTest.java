import java.lang.management.ManagementFactory;

/** All calls of a run live in one room: calls that only ask make nothing, and an object stays small. */
public final class RoomTest {
    private static final int CALLS = 512;
    private static final long MOST_BYTES_OF_OBJECT = 40000;
    private static final long MOST_BYTES_OF_CALLS = 2000;
    private static final String TEXT = "(g<10|t=1|c<20|g=31|c=42|t>5|g>53&c>64);(s<3|!s=5);n9;b9";
    private static int wrong = 0;

    public static void main(String[] args) {
        com.sun.management.ThreadMXBean memory =
                (com.sun.management.ThreadMXBean) ManagementFactory.getThreadMXBean();
        memory.getCurrentThreadAllocatedBytes();
        full();
        long start = memory.getCurrentThreadAllocatedBytes();
        StudentSwaps x = full();
        check("a full object", memory.getCurrentThreadAllocatedBytes() - start, MOST_BYTES_OF_OBJECT);
        ask(x);
        x = full();
        start = memory.getCurrentThreadAllocatedBytes();
        ask(x);
        check("calls", memory.getCurrentThreadAllocatedBytes() - start, MOST_BYTES_OF_CALLS);
        if (wrong != 0) {
            System.exit(1);
        }
    }

    private static void check(String what, long bytes, long most) {
        System.out.println(what + ": " + bytes + " bytes");
        if (bytes > most) {
            wrong++;
            System.out.println("more than " + most);
        }
    }

    private static int word(int at) {
        int word = 0;
        for (int i = at; i < at + 4; i++) {
            word = word << 8 | (i < TEXT.length() ? TEXT.charAt(i) : 0);
        }
        return word;
    }

    private static StudentSwaps full() {
        StudentSwaps x = new StudentSwaps();
        for (int h = 0; h < 8; h++) {
            x.school(0, 0, 2, 0, 0, 359, 0);
            for (int c = 0; c < 6; c++) {
                x.course(h, 1 << c, 3, 0, 1 << c);
            }
        }
        for (int i = 0; i < 12; i++) {
            for (int at = 0; at < TEXT.length(); at += 20) {
                x.feed(word(at), word(at + 4), word(at + 8), word(at + 12), word(at + 16));
            }
            x.agreement(i % 2, 2 + i % 6, TEXT.length());
        }
        for (int s = 0; s < 16; s++) {
            x.student(s % 2, 0, 5, 0, 4095);
            for (int w = 2; w < 8; w++) {
                x.wish(s, w);
            }
        }
        return x;
    }

    private static void ask(StudentSwaps x) {
        for (int i = 0; i < CALLS; i++) {
            switch (i % 16) {
                case 0: x.round(); break;
                case 1: x.mend(); break;
                case 2: x.terms(i % 12, i / 12 % 12, i / 16 % 3); break;
                case 3: x.kept(); break;
                case 4: x.study(i / 16 % 16, 2, 0); break;
                case 5: x.fact(i / 16 % 16, 2, 5, 5); break;
                case 6: x.crowded(2, 300); break;
                case 7: x.there(2, 20, 300); break;
                case 8: x.counts(i / 16 % 16, 0, 300); break;
                case 9: x.beds(2 + i / 16 % 6, i / 16 % 3); break;
                case 10: x.owed(0); break;
                case 11: x.turn(0, 1, i / 16 % 11, 1); break;
                case 12: x.visa(0, 300); break;
                case 13: x.feed(word(0), 0, 0, 0, 0); break;
                case 14: x.agreement(0, 1, 3); break;
                default: x.out(i / 16 % 16);
            }
        }
    }
}
