import java.io.IOException;
import java.nio.file.Files;
import java.nio.file.Path;

/** What tests share: offices, texts on the tape, and the answers that are not as due. */
abstract class Asked {
    static final int NONE = StudentSwaps.NONE;
    private static final Path DOCUMENT = Path.of("../shared/DOC.md");
    private static int asked = 0;
    private static int wrong = 0;
    private static int sentences = 0;
    private static String sentence = "";
    private static int askedAhead = 0;
    private static String document = null;

    /** An argument, and whether it is taken. */
    interface Try {
        boolean takes(int n);
    }

    /** What is asked from here on is asked of these words of the document. */
    static void sentence(String words) {
        endSentence();
        sentences++;
        sentence = words;
        askedAhead = asked;
        if (!isInDocument(words)) {
            wrong++;
            System.out.println("the document does not say: " + words);
        }
    }

    private static void endSentence() {
        if (!sentence.isEmpty() && asked == askedAhead) {
            wrong++;
            System.out.println("nothing is asked of: " + sentence);
        }
    }

    private static boolean isInDocument(String words) {
        try {
            if (document == null) {
                document = Files.isReadable(DOCUMENT) ? Files.readString(DOCUMENT) : "";
            }
        } catch (IOException e) {
            document = "";
        }
        return document.isEmpty() || document.contains(words);
    }

    static void due(String what, long got, long want) {
        asked++;
        if (got != want) {
            wrong++;
            System.out.println((sentence.isEmpty() ? "" : "[" + sentence + "] ") + what
                    + " answered " + got + ", due is " + want);
        }
    }

    /** All from least to most are taken (of many: some), and none beside them, however far. */
    static void takes(String what, int least, int most, Try call) {
        int step = Math.max(1, (most - least) / 400);
        for (int n = least; n < most; n += step) {
            due(what + " " + n, call.takes(n), true);
        }
        due(what + " " + most, call.takes(most), true);
        refuses(what, call, least - 1, most + 1, Integer.MIN_VALUE, Integer.MAX_VALUE);
        // numbers that would be right if their higher bits were lost
        for (int shift = 5; shift < 32; shift++) {
            int far = least + (1 << shift);
            if (far < least || far > most) {
                refuses(what, call, far);
            }
            if (least - (1 << shift) < least) {
                refuses(what, call, least - (1 << shift));
            }
        }
    }

    static void refuses(String what, Try call, int... numbers) {
        for (int n : numbers) {
            due(what + " " + n, call.takes(n), false);
        }
    }

    static void due(String what, boolean got, boolean want) {
        due(what, got ? 1 : 0, want ? 1 : 0);
    }

    /** Tells how many answers were asked, and ends the program with 1 if one was not as due. */
    static void end() {
        endSentence();
        System.out.println((sentences > 0 ? sentences + " sentences, " : "") + asked + " answers asked, " + wrong + " not as due");
        if (wrong != 0) {
            System.exit(1);
        }
    }

    /** Four signs of a text as an int, the first highest; zeros behind its end. */
    static int word(String text, int at) {
        int word = 0;
        for (int i = at; i < at + 4; i++) {
            word = word << 8 | (i < text.length() ? text.charAt(i) & 255 : 0);
        }
        return word;
    }

    static void feedText(StudentSwaps x, String text) {
        for (int i = 0; i < text.length(); i += 20) {
            x.feed(word(text, i), word(text, i + 4), word(text, i + 8), word(text, i + 12), word(text, i + 16));
        }
    }

    static int agree(StudentSwaps x, int a, int b, String text) {
        feedText(x, text);
        return x.agreement(a, b, text.length());
    }

    /** n SCHOOLS with TERM 100 to 199, LAND and TONGUE by number, 9 BEDS, FEE 1000. */
    static StudentSwaps office(int n) {
        StudentSwaps x = new StudentSwaps();
        for (int h = 0; h < n; h++) {
            x.school(h % 4, h % 4, 9, 0, 100, 199, 1000);
        }
        return x;
    }

    static int wisher(StudentSwaps x, int home, int... wishes) {
        int s = x.student(home, 0, 50, 10, 0);
        for (int h : wishes) {
            x.wish(s, h);
        }
        return s;
    }

    /** One STUDENT of SCHOOL 0 PLACED at SCHOOL 1 (TERM 100 to 199), one WAITING; a third SCHOOL. */
    static StudentSwaps placedOne() {
        StudentSwaps x = office(3);
        agree(x, 0, 1, "n9;b9");
        wisher(x, 0, 1);
        x.round();
        wisher(x, 0, 1);
        return x;
    }
}
