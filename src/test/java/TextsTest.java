/** Each sentence of the document's second part, and of promises 7 to 10, that names an edge. */
public final class TextsTest extends Asked {
    private static final String MANY_KINDS = "n9;b99;p9999;y0-99;(!(g<100|t>9)&c=99|s=7)";
    private static final String DIGITS = "0123456789";

    public static void main(String[] args) {
        feed();
        bytesOfFeed();
        tapeOfEighty();
        firstBytes();
        bytesBehind();
        emptyThen();
        noneAndTheTapeStays();
        twoSchools();
        twelveAgreements();
        sixtyBytes();
        blanks();
        clauses();
        numbersOfClauses();
        atFirst();
        years();
        laterClause();
        allExpressions();
        factors();
        signs();
        digits();
        whatCanStand();
        whatCanStandInExpressions();
        theEnd();
        wrongBytes();
        numbersThatCanNotBe();
        firstFromTheLeft();
        sevenBrackets();
        faultsLeaveNothing();
        meets();
        empty();
        saysNoMore();
        quarrel();
        terms();
        end();
    }

    private static int read(String text) {
        return agree(office(2), 0, 1, text);
    }

    private static void fault(String text, int want) {
        due(text, read(text), want);
    }

    private static StudentSwaps agreed(String... texts) {
        StudentSwaps x = office(2);
        for (int i = 0; i < texts.length; i++) {
            due(texts[i], agree(x, 0, 1, texts[i]), i);
        }
        return x;
    }

    private static void feed() {
        sentence("Twenty bytes come behind the tape, the highest of each int first: how many it has; NONE if that"
                + " would be more than 80.");
        StudentSwaps x = new StudentSwaps();
        due("at first", x.count(9), 0);
        for (int n = 20; n <= 80; n += 20) {
            due("so many", x.feed(-1, Integer.MIN_VALUE, Integer.MAX_VALUE, 0, 1), n);
        }
        due("more", x.feed(0, 0, 0, 0, 0), NONE);
        due("more again", x.feed(-1, -1, -1, -1, -1), NONE);
        due("still", x.count(9), 80);
    }

    private static void bytesOfFeed() {
        sentence("the highest of each int first");
        StudentSwaps x = office(2);
        x.feed(word("n2;b", 0), word("34;p", 0), word("5678", 0), word(";y9-", 0), word("87;(", 0));
        x.feed(word("g<6)", 0), 0, 0, 0, -1);
        due("all of them", x.agreement(0, 1, 24), 0);
        long[] want = {0, 1, 2, 34, 5678, 9, 87, 1};
        for (int what = 0; what < want.length; what++) {
            due("about " + what, x.about(0, what), want[what]);
        }
        // each byte of a word on its own, the highest bit, too
        for (int at = 0; at < 4; at++) {
            for (int bad : new int[] {0, 32, 127, 128, 255}) {
                StudentSwaps y = office(2);
                int wrong = bad - "n1;n".charAt(at);
                y.feed(word("n1;n", 0) + (wrong << 24 - 8 * at), word("1000", 0), 0, 0, 0);
                due("byte " + at + " is " + bad, y.agreement(0, 1, 5), -100 - at);
            }
        }
    }

    private static void tapeOfEighty() {
        sentence("NONE if that would be more than 80");
        StudentSwaps x = office(2);
        feedText(x, "n7;b77;p777;y7-77");
        x.feed(0, 0, 0, 0, 0);
        x.feed(0, 0, 0, 0, 0);
        due("80", x.feed(0, 0, 0, 0, 0), 80);
        due("refused", x.feed(word("n1;b", 0), word("1;p1", 0), 0, 0, 0), NONE);
        due("the bytes are as they were", x.agreement(0, 1, 17), 0);
        due("n", x.about(0, 2), 7);
        due("p", x.about(0, 4), 777);
        due("there is room again", x.feed(0, 0, 0, 0, 0), 20);
    }

    private static void firstBytes() {
        sentence("An AGREEMENT of SCHOOLS a and b by the first n bytes of the tape (1 to 60; empty then)");
        for (int fed = 0; fed <= 80; fed += 20) {
            int size = fed;
            int most = Math.min(60, size);
            if (most > 0) {
                takes("of " + size, 1, most, n -> byTape(size, n) != NONE);
            } else {
                refuses("of none", n -> byTape(0, n) != NONE, -1, 0, 1, 2, 20, 60, 61, Integer.MAX_VALUE);
            }
        }
        due("one byte", byTape(20, 1), -101);
        due("two bytes", byTape(20, 2), 0);
        due("sixty bytes", byTape(60, 60), 0);
    }

    private static int byFirst(StudentSwaps x, String text, int n) {
        feedText(x, text);
        return x.agreement(0, 1, n);
    }

    private static void bytesBehind() {
        sentence("by the first n bytes of the tape");
        due("a fifth digit behind", byFirst(office(2), "p12345", 5), 0);
        due("a fifth digit within", byFirst(office(2), "p12345", 6), -105);
        due("a wrong byte behind", byFirst(office(2), "n1x", 2), 0);
        due("a ) behind", byFirst(office(2), "(g<5)", 4), -104);
        due("a number behind", byFirst(office(2), "n1;n2", 4), -104);
        due("a clause behind a ;", byFirst(office(2), "n1;n2", 3), -103);
        due("a sign behind", byFirst(office(2), "(g<5)", 2), -102);
        due("a seventh ( behind", byFirst(office(2), "(((((((", 6), -106);
        StudentSwaps x = office(2);
        due("a digit behind", byFirst(x, "b123", 3), 0);
        due("it does not count", x.about(0, 3), 12);
        due("a later clause behind", byFirst(x, "n3;n4", 2), 1);
        due("nor does that", x.about(1, 2), 3);
        String sixty = often("n1;", 18) + "b99;n2";
        due("the sixty-first is behind", byFirst(x, sixty + "3;", 60), 2);
        due("it is 2", x.about(2, 2), 2);
    }

    /** An AGREEMENT by n of so many bytes, n1;n1;.. up to n1n. */
    private static int byTape(int fed, int n) {
        StudentSwaps x = office(2);
        if (fed > 0) {
            x.feed(word("n1;n", 0), word("0001", 0), word(";b00", 0), word("1;b0", 0), word("1;n1", 0));
        }
        for (int i = 20; i < fed; i += 20) {
            x.feed(word(";n1;", 0), word("b001", 0), word(";b00", 0), word("1;b0", 0), word("1;n1", 0));
        }
        return x.agreement(0, 1, n);
    }

    private static void emptyThen() {
        sentence("(1 to 60; empty then)");
        StudentSwaps x = office(2);
        for (String text : new String[] {"n1", "n", "n10", "(((((((", "x"}) {
            for (int i = 0; i < 4; i++) {
                x.feed(word(text, 0), word(text, 4), 0, 0, 0);
            }
            due(text, x.agreement(0, 1, text.length()) == NONE, false);
            due("no bytes are left by " + text, x.count(9), 0);
        }
        due("nothing to read", x.agreement(0, 1, 1), NONE);
    }

    private static void noneAndTheTapeStays() {
        sentence("NONE: no such two, n, 12 are there, it has not so many (the tape stays).");
        int[][] wrong = {{0, 0, 2}, {1, 1, 2}, {-1, 0, 2}, {0, -1, 2}, {3, 0, 2}, {0, 3, 2}, {0, 1, 0}, {0, 1, -1},
            {0, 1, 21}, {0, 1, 60}, {0, 1, 61}, {0, 1, Integer.MIN_VALUE}, {0, 1, Integer.MAX_VALUE},
            {Integer.MIN_VALUE, Integer.MAX_VALUE, 2}};
        for (int[] w : wrong) {
            StudentSwaps x = office(3);
            feedText(x, "n6;b5");
            due("refused", x.agreement(w[0], w[1], w[2]), NONE);
            due("the tape stays", x.count(9), 20);
            due("its bytes, too", x.agreement(0, 1, 5), 0);
            due("as they were", x.about(0, 2) * 10 + x.about(0, 3), 65);
        }
    }

    private static void twoSchools() {
        sentence("AGREEMENTS 0 to 11, each between two SCHOOLS, with a TEXT (60 bytes at most, no blanks)");
        takes("first school", 0, 6, n -> agree(office(8), n, 7, "n1") == 0);
        takes("second school", 1, 7, n -> agree(office(8), 0, n, "n1") == 0);
        takes("of two, the first", 0, 0, n -> agree(office(2), n, 1, "n1") == 0);
        takes("of two, the second", 1, 1, n -> agree(office(2), 0, n, "n1") == 0);
        due("one school is not enough", agree(office(1), 0, 0, "n1"), NONE);
        due("nor is it with another one", agree(office(1), 0, 1, "n1"), NONE);
    }

    private static void twelveAgreements() {
        sentence("12 are there");
        StudentSwaps x = office(2);
        for (int i = 0; i < 12; i++) {
            due("number", agree(x, i % 2, 1 - i % 2, "n1"), i);
        }
        due("a thirteenth", agree(x, 0, 1, "n1"), NONE);
        due("twelve", x.count(2), 12);
        due("the tape stays", x.count(9), 20);
        due("with a fault, too", x.agreement(0, 1, 3), NONE);
        due("the tape still stays", x.count(9), 20);
        due("there is no number 12", x.about(12, 0), NONE);
        due("there is a number 11", x.about(11, 0), 1);
    }

    private static String often(String part, int n) {
        StringBuilder all = new StringBuilder();
        for (int i = 0; i < n; i++) {
            all.append(part);
        }
        return all.toString();
    }

    private static void sixtyBytes() {
        sentence("with a TEXT (60 bytes at most, no blanks)");
        fault(often("n1;", 18) + "p54321", -159);
        fault(often("n1;", 18) + "p54321".substring(0, 5), 0);
        fault(often("n1;", 18) + "b99;n2", 0);
        fault(often("n1;", 18) + "b99;n;", -159);
        fault(often("n1;", 18) + "b99;22", -158);
        fault(often("n1;", 18) + "b99;nn", -159);
        fault(often("n1;", 20), -160);
        fault("(" + often("!", 59), -160);
        fault("(" + often("!", 55) + "g<5)", 0);
        fault("(" + often("!", 55) + "g<55", -160);
        fault(often("(g<5);", 9) + "(g<51)", 0);
        fault(often("(g<5);", 9) + "(g<5);", -160);
        StudentSwaps x = agreed(often("n1;", 18) + "b99;n2", "(" + often("!", 54) + "g<51)",
            "(" + often("!", 55) + "g<5)");
        due("the sixtieth byte counts", x.about(0, 2), 2);
        due("an even number of !", x.meets(1, 50, 0, 0, 0) * 10 + x.meets(1, 51, 0, 0, 0), 10);
        due("an odd number of !", x.meets(2, 4, 0, 0, 0) * 10 + x.meets(2, 5, 0, 0, 0), 1);
        due("sixty-one", agree(office(2), 0, 1, often("n1;", 19) + "b9;n"), NONE);
    }

    private static void blanks() {
        sentence("no blanks");
        for (int i = 0; i <= MANY_KINDS.length(); i++) {
            fault(MANY_KINDS.substring(0, i) + " " + MANY_KINDS.substring(i), -100 - i);
        }
    }

    private static void clauses() {
        sentence("CLAUSES with a ; between two");
        fault("n1;b1", 0);
        fault(";n1", -100);
        fault("n1;", -103);
        fault("n1;;b1", -103);
        fault("n1b1", -102);
        fault("n1,b1", -102);
        fault("(g<5)(g<5)", -105);
        fault("(g<5);(g<5)", 0);
        fault("(g<5)n1", -105);
        fault("(g<5);n1", 0);
        fault("y1-2b1", -104);
        fault(";", -100);
    }

    private static void numbersOfClauses() {
        sentence("n and a number (0 to 9): how many may go each way in a YEAR (1 at first); b and a number (0 to 99):"
                + " how far the BALANCE may be from 0 (1 at first); p and a number (0 to 9999): pence for one (0 at"
                + " first)");
        int[] most = {9, 99, 9999};
        for (int kind = 0; kind < 3; kind++) {
            String letter = "nbp".substring(kind, kind + 1);
            for (int n = 0; n <= 9999; n++) {
                // all up to 120, then some
                if (n <= 120 || n % 97 == 0 || n >= 9990) {
                    StudentSwaps x = office(2);
                    boolean isRight = n <= most[kind];
                    due(letter + n, agree(x, 0, 1, letter + n), isRight ? 0 : -201);
                    due("shown, " + letter + n, x.about(0, 2 + kind), isRight ? n : NONE);
                }
            }
        }
    }

    private static void atFirst() {
        sentence("YEARS in which it is IN FORCE (0 and 99 at first)");
        StudentSwaps x = agreed("(g<5)", "n0", "b0", "p1", "y1-1");
        long[] first = {0, 1, 1, 1, 0, 0, 99, 1, 0, 1};
        for (int what = 0; what < 10; what++) {
            due("at first, " + what, x.about(0, what), first[what]);
        }
        due("n alone", x.about(1, 2) * 100 + x.about(1, 3) * 10 + x.about(1, 4), 10);
        due("b alone", x.about(2, 2) * 100 + x.about(2, 3) * 10 + x.about(2, 4), 100);
        due("p alone", x.about(3, 2) * 100 + x.about(3, 3) * 10 + x.about(3, 4), 111);
        due("y alone", x.about(4, 2) * 100 + x.about(4, 3) * 10 + x.about(4, 4), 110);
        due("no expressions", x.about(1, 7) + x.about(2, 7) + x.about(3, 7) + x.about(4, 7), 0);
    }

    private static void years() {
        sentence("y, a number, -, a number (0 to 99 each, the second not below the first)");
        fault("y0-0", 0);
        fault("y99-99", 0);
        fault("y0-99", 0);
        fault("y99-98", -204);
        fault("y1-0", -203);
        fault("y0-100", -203);
        fault("y100-100", -201);
        fault("y100", -201);
        fault("y99-100", -204);
        fault("y9999-0", -201);
        fault("y0-9999", -203);
        fault("y10-9", -204);
        fault("y9-10", 0);
        fault("y09-0010", 0);
        StudentSwaps x = agreed("y0-0", "y1-2", "y99-99", "y0-99");
        for (int y = 0; y <= 99; y++) {
            due("0-0", x.about(0, 9), y == 0 ? 1 : 0);
            due("1-2", x.about(1, 9), y == 1 || y == 2 ? 1 : 0);
            due("99-99", x.about(2, 9), y == 99 ? 1 : 0);
            due("0-99", x.about(3, 9), 1);
            x.year();
        }
    }

    private static void laterClause() {
        sentence("Of n, b, p, y the later CLAUSE counts");
        StudentSwaps x = agreed("n5;b6;p7;y8-9;n0;b0;p0;y0-0", "n5;n6;n7", "y3-4;(g<5);y1-99;(g<6)");
        long[] want = {0, 1, 0, 0, 0, 0, 0, 0};
        for (int what = 0; what < want.length; what++) {
            due("about " + what, x.about(0, what), want[what]);
        }
        due("the last of three", x.about(1, 2), 7);
        due("the first year of the later", x.about(2, 5), 1);
        due("the last year of the later", x.about(2, 6), 99);
        fault("n10;n1", -201);
        fault("n1;n10", -204);
    }

    private static void allExpressions() {
        sentence("all EXPRESSIONS must hold");
        StudentSwaps x = agreed("n1", "(g>10);(g<20);(t=3);(!s=0)", "(g<5);(g>5)", often("(g<5);", 9) + "(g<4)");
        due("none", x.about(0, 7), 0);
        due("without one all meets it", x.meets(0, 0, 0, 0, 0) + x.meets(0, 100, 9, 99, 7), 2);
        due("four", x.about(1, 7), 4);
        due("all hold", x.meets(1, 11, 3, 0, 1) + x.meets(1, 19, 3, 0, 7), 2);
        due("the first does not", x.meets(1, 10, 3, 0, 1), 0);
        due("the second does not", x.meets(1, 20, 3, 0, 1), 0);
        due("the third does not", x.meets(1, 11, 2, 0, 1), 0);
        due("the last does not", x.meets(1, 11, 3, 0, 0), 0);
        due("never both", x.meets(2, 5, 0, 0, 0), 0);
        due("ten", x.about(3, 7), 10);
        due("the tenth counts", x.meets(3, 3, 0, 0, 0) * 10 + x.meets(3, 4, 0, 0, 0), 10);
    }

    private static void factors() {
        sentence("EXPRESSION: TERMS with a | between two, one of which must hold; TERM: FACTORS with a & between two,"
                + " all of which must hold; FACTOR: ! FACTOR (which must not hold), ( EXPRESSION )");
        StudentSwaps x = agreed("(g=1|t=1&c=1)", "((g=1|t=1)&c=1)", "(!g=1&t=1)", "(!(g=1&t=1))", "(g=1&t=1|c=1&s=1)",
            "(!!g=1|!!!t=1)", "(g=1|t=1|c=1|s=1)", "(g=1&t=1&c=1&s=1)", "(!g=1|t=1)", "(((!((g=1)))))");
        for (int bits = 0; bits < 16; bits++) {
            int g = bits & 1;
            int t = bits >> 1 & 1;
            int c = bits >> 2 & 1;
            int s = bits >> 3 & 1;
            int[] want = {g | t & c, (g | t) & c, (1 - g) & t, 1 - (g & t), g & t | c & s, g | 1 - t, g | t | c | s,
                g & t & c & s, 1 - g | t, 1 - g};
            for (int i = 0; i < want.length; i++) {
                due("text " + i + " with " + bits, x.meets(i, g, t, c, s), want[i]);
            }
        }
    }

    private static void signs() {
        sentence("g GRADE (0 to 100), t LEVEL (0 to 9), c CREDITS (0 to 99), s SUBJECT (0 to 7); below it (<), above it"
                + " (>), or just it (=)");
        int[] most = {100, 9, 99, 7};
        for (int kind = 0; kind < 4; kind++) {
            String letter = "gtcs".substring(kind, kind + 1);
            for (int number : new int[] {0, 1, 4, most[kind] - 1, most[kind], most[kind] + 1, 9999}) {
                StudentSwaps x = agreed("(" + letter + "<" + number + ")", "(" + letter + ">" + number + ")",
                    "(" + letter + "=" + number + ")");
                for (int n = 0; n <= most[kind]; n++) {
                    int[] at = {0, 0, 0, 0};
                    at[kind] = n;
                    due(letter + "<", x.meets(0, at[0], at[1], at[2], at[3]), n < number ? 1 : 0);
                    due(letter + ">", x.meets(1, at[0], at[1], at[2], at[3]), n > number ? 1 : 0);
                    due(letter + "=", x.meets(2, at[0], at[1], at[2], at[3]), n == number ? 1 : 0);
                }
            }
        }
    }

    private static void digits() {
        sentence("Numbers have one to four digits.");
        for (String ahead : new String[] {"n", "b", "p", "y", "y0-", "(g<", "(t>", "(c=", "(s<", "(g<5&t="}) {
            String behind = ahead.equals("y") ? "-1" : ahead.charAt(0) == '(' ? ")" : "";
            fault(ahead + behind, -100 - ahead.length());
            for (int n = 1; n <= 4; n++) {
                fault(ahead + "0001".substring(4 - n) + behind, 0);
            }
            fault(ahead + "00001" + behind, -104 - ahead.length());
            fault(ahead + "000001" + behind, -104 - ahead.length());
            fault(ahead + "99999" + behind, -104 - ahead.length());
            fault(ahead + "9999999999" + behind, -104 - ahead.length());
        }
        due("zeros ahead", agreed("n0009").about(0, 2), 9);
        due("four digits", agreed("p0099").about(0, 4), 99);
    }

    /** Each byte behind a text: some make it whole, behind some more must come, all others can't stand there. */
    private static void each(String ahead, String whole, String more) {
        int place = ahead.length();
        for (int b = 0; b < 256; b++) {
            boolean isWhole = whole.indexOf((char) b) >= 0;
            boolean isOpen = more.indexOf((char) b) >= 0;
            int want = isWhole ? 0 : isOpen ? -101 - place : -100 - place;
            due(ahead + " and byte " + b, read(ahead + (char) b), want);
        }
    }

    private static void whatCanStand() {
        sentence("FAULTS, the first from the left: 1 what can't stand there (the end, a fifth digit, too)");
        each("", "", "nbpy(");
        each("n", DIGITS, "");
        each("b", DIGITS, "");
        each("p", DIGITS, "");
        each("y", "", DIGITS);
        each("b1", DIGITS, ";");
        each("p123", DIGITS, ";");
        each("p1234", "", ";");
        each("y5", "", "-" + DIGITS);
        each("y0005", "", "-");
        each("y0-", DIGITS, "");
        each("y00-1", DIGITS, ";");
        each("y0-0001", "", ";");
        each("n1;", "", "nbpy(");
        each("n1;n0001", "", ";");
        each("(g<5)", "", ";");
    }

    private static void whatCanStandInExpressions() {
        sentence("1 what can't stand there");
        each("(", "", "(!gtcs");
        each("(!", "", "(!gtcs");
        each("((", "", "(!gtcs");
        each("(((((", "", "(!gtcs");
        each("(g<5&", "", "(!gtcs");
        each("(g<5|", "", "(!gtcs");
        for (String letter : new String[] {"g", "t", "c", "s"}) {
            each("(" + letter, "", "<>=");
            each("(" + letter + "<", "", DIGITS);
            each("(" + letter + ">5", ")", "&|" + DIGITS);
            each("(" + letter + "=1000", ")", "&|");
        }
        each("(g<1000&t=0000", ")", "&|");
        each("((g<1000", "", ")&|");
        each("((g<1000)", ")", "&|");
    }

    private static void theEnd() {
        sentence("(the end, a fifth digit, too)");
        // where the text may end: behind a clause, or within its last number
        String ends = ",2,5,6,9,10,11,12,17,18," + MANY_KINDS.length() + ",";
        for (int n = 1; n <= MANY_KINDS.length(); n++) {
            boolean canEnd = ends.indexOf("," + n + ",") >= 0;
            fault(MANY_KINDS.substring(0, n), canEnd ? 0 : -100 - n);
        }
    }

    private static void wrongBytes() {
        sentence("FAULTS, the first from the left");
        // '/' and ':' stand beside the digits
        for (int i = 0; i < MANY_KINDS.length(); i++) {
            for (char bad : new char[] {0, '\n', '/', ':', 'A', 'N', 'G', '~', 128, 176, 255}) {
                fault(MANY_KINDS.substring(0, i) + bad + MANY_KINDS.substring(i + 1), -100 - i);
            }
        }
    }

    private static void numbersThatCanNotBe() {
        sentence("2 a number that it can't be, at its first digit (asked when its digits end; in EXPRESSIONS all can"
                + " be)");
        fault("n10", -201);
        fault("n10;n1", -201);
        fault("n10x", -201);
        fault("n1234", -201);
        fault("n12345", -105);
        fault("n1;n0010", -204);
        fault("b100", -201);
        fault("b100(", -201);
        fault("p10000", -105);
        fault("y5-4", -203);
        fault("y5-4;x", -203);
        fault("y5-04", -203);
        fault("y5-00040", -107);
        fault("y100x", -201);
        fault("y100-", -201);
        fault("y99x", -103);
        for (String letter : new String[] {"g", "t", "c", "s"}) {
            for (String sign : new String[] {"<", ">", "="}) {
                fault("(" + letter + sign + "9999)", 0);
                fault("(" + letter + sign + "0)", 0);
            }
        }
    }

    private static void firstFromTheLeft() {
        sentence("the first from the left");
        fault("n10;x", -201);
        fault("x;n10", -100);
        fault("nx;n10", -101);
        fault("n10;(((((((", -201);
        fault("(((((((;n10", -306);
        fault("(g<5;n10", -104);
        fault("(((((((g<12345", -306);
        fault("((((((g<12345(", -112);
        fault("n9;b100;p99999", -204);
    }

    private static void sevenBrackets() {
        sentence("3 a seventh ( that is open in one another, at it.");
        fault("((((((g<5))))))", 0);
        fault("(((((((g<5)))))))", -306);
        fault("(((((((", -306);
        fault("((((((((((((", -306);
        fault("((((((", -106);
        fault("(!(!(!(!(!(!(g<5)))))))", -312);
        fault("(!(!(!(!(!(g<5))))))", 0);
        fault("(g<5&(g<5|(g<5&(g<5|(g<5&(g<5))))))", 0);
        fault("(g<5&(g<5|(g<5&(g<5|(g<5&(g<5|(g<5", -330);
        fault("((g<5)&(g<5)&(g<5)&(g<5)&(g<5)&(g<5)&(g<5)&(g<5))", 0);
        fault("((((((g<5)|(g<5)|(g<5)|(g<5)|(g<5)))))))", -139);
        fault("((((((g<5)|(g<5)|(g<5)|(g<5)|(g<5))))))", 0);
        fault("((((((g<5)|((g<5", -312);
        fault("((((((g<5))))));((((((g<5))))))", 0);
        fault("((((((g<5))))));(((((((g<5", -322);
        fault("((((((g(", -107);
        fault("((((((g<5(", -109);
        fault("n(", -101);
    }

    private static void faultsLeaveNothing() {
        sentence("a FAULT: -100 times its number, less its place (there is none then)");
        StudentSwaps x = agreed("n2;b2;p2;y2-2;(g=2)");
        int[] faults = {-100, -201, -306, -159};
        String[] texts = {"x", "n10", "(((((((", "n3;b3;p3;y3-3;(g=3);n3;b3;p3;y3-3;(g=3);n3;b3;p3;y3-3;(g=3&"};
        for (int i = 0; i < texts.length; i++) {
            due(texts[i], agree(x, 1, 0, texts[i]), faults[i]);
            due("there is none", x.count(2), 1);
            due("nor is it shown", x.about(1, 0), NONE);
        }
        due("the next one's number", agree(x, 1, 0, "b3"), 1);
        long[] want = {1, 0, 1, 3, 0, 0, 99, 0, 0, 1};
        for (int what = 0; what < want.length; what++) {
            due("nothing is left of the faults, " + what, x.about(1, what), want[what]);
        }
        due("nor of their expressions", x.meets(1, 7, 0, 0, 0), 1);
    }

    private static void meets() {
        sentence("Whether AGREEMENT x is MET: 1, 0; NONE: no such ones.");
        takes("agreement, of none but one", 0, 0, n -> agreed("n1").meets(n, 0, 0, 0, 0) == 1);
        takes("agreement, of three", 0, 2, n -> agreed("n1", "n1", "n1").meets(n, 0, 0, 0, 0) == 1);
        takes("grade", 0, 100, n -> agreed("n1").meets(0, n, 9, 99, 7) == 1);
        takes("level", 0, 9, n -> agreed("n1").meets(0, 100, n, 99, 7) == 1);
        takes("credits", 0, 99, n -> agreed("n1").meets(0, 100, 9, n, 7) == 1);
        takes("subject", 0, 7, n -> agreed("n1").meets(0, 100, 9, 99, n) == 1);
        takes("grade of one that is not met", 0, 100, n -> agreed("(g<0)").meets(0, n, 0, 0, 0) == 0);
        due("in force or not", agreed("y5-6").meets(0, 0, 0, 0, 0), 1);
    }

    private static int emptyBy(String text) {
        return agreed(text).terms(0, 0, 0);
    }

    private static void empty() {
        sentence("EMPTY: nothing in these ranges MEETS it.");
        int[] most = {100, 9, 99, 7};
        for (int kind = 0; kind < 4; kind++) {
            String letter = "gtcs".substring(kind, kind + 1);
            due("below 0", emptyBy("(" + letter + "<0)"), 1);
            due("below 1", emptyBy("(" + letter + "<1)"), 0);
            due("0", emptyBy("(" + letter + "=0)"), 0);
            due("above the last", emptyBy("(" + letter + ">" + most[kind] + ")"), 1);
            due("the last", emptyBy("(" + letter + ">" + (most[kind] - 1) + ")"), 0);
            due("just the last", emptyBy("(" + letter + "=" + most[kind] + ")"), 0);
            due("just behind it", emptyBy("(" + letter + "=" + (most[kind] + 1) + ")"), 1);
            due("far behind it", emptyBy("(" + letter + "=9999)"), 1);
            due("not up to the last", emptyBy("(!" + letter + "<" + (most[kind] + 1) + ")"), 1);
            due("between two that touch", emptyBy("(" + letter + ">3&" + letter + "<4)"), 1);
            due("between two, one apart", emptyBy("(" + letter + ">3&" + letter + "<5)"), 0);
            due("two at once", emptyBy("(" + letter + "=3);(" + letter + "=4)"), 1);
        }
        due("one of all there are", emptyBy("(g=100&t=9&c=99&s=7)"), 0);
        due("the first of all", emptyBy("(g<1&t<1&c<1&s<1)"), 0);
        due("none", emptyBy("(g=50&t=5|c=3);(!g=50&!c=3)"), 1);
        due("no expressions", emptyBy("n0"), 0);
        due("all subjects", emptyBy("(s<3);(!s=0&!s=1&!s=2)"), 1);
        due("all but one subject", emptyBy("(s<4);(!s=0&!s=1&!s=2)"), 0);
    }

    /** Whether the first says no more than the second (tens), and the second no more than the first. */
    private static int more(String one, String other) {
        StudentSwaps x = agreed(one, other);
        return x.terms(0, 1, 1) * 10 + x.terms(1, 0, 1);
    }

    private static void saysNoMore() {
        sentence("One SAYS NO MORE than another one if all that MEETS the other one MEETS it.");
        due("itself", agreed("(g<5)").terms(0, 0, 1), 1);
        due("empty, itself", agreed("(g<0)").terms(0, 0, 1), 1);
        due("wider by one grade", more("(g<51)", "(g<50)"), 10);
        due("alike", more("(g<51)", "(!g>50)"), 11);
        due("alike at the upper end", more("(g<101)", "n1"), 11);
        due("all but the last grade", more("(g<100)", "n1"), 1);
        due("all but one point", more("(!(g=37&t=4&c=88&s=5))", "n1"), 1);
        due("all but the last point", more("(!(g=100&t=9&c=99&s=7))", "n1"), 1);
        due("all but the first point", more("(!(g=0&t=0&c=0&s=0))", "n1"), 1);
        due("neither", more("(g<50)", "(t<5)"), 0);
        due("the empty one says more than all", more("(g<0)", "(g=0&t=0&c=0&s=0)"), 1);
        due("both empty", more("(g<0)", "(s>7)"), 11);
        due("subjects alone", more("(s<7)", "(!s=7)"), 11);
        due("one subject", more("(s<7)", "(s<6)"), 10);
        due("of other numbers, years and pence", more("n0;b0;p0;y0-0;(g<5)", "n9;b9;p9;y9-9;(g<5)"), 11);
        StudentSwaps x = office(4);
        agree(x, 0, 1, "(g<5)");
        agree(x, 2, 3, "(g<4)");
        due("of other schools", x.terms(0, 1, 1) * 10 + x.terms(1, 0, 1), 10);
    }

    private static int quarrels(StudentSwaps x) {
        return x.terms(0, 1, 2) * 10 + x.terms(1, 0, 2);
    }

    private static void quarrel() {
        sentence("Two QUARREL if they are between the same two SCHOOLS, have some YEAR IN FORCE in common, and nothing"
                + " MEETS both.");
        due("touching", quarrels(agreed("(g<50)", "(g>49)")), 11);
        due("one grade in common", quarrels(agreed("(g<51)", "(g>49)")), 0);
        due("one point in common", quarrels(agreed("(g=3&t=9&c=99)", "(s=7&g=3|s=0&g=4)")), 0);
        due("one year in common", quarrels(agreed("(g<50);y3-5", "(g>49);y5-9")), 11);
        due("no year in common", quarrels(agreed("(g<50);y3-4", "(g>49);y5-9")), 0);
        due("years within years", quarrels(agreed("(g<50);y0-99", "(g>49);y7-7")), 11);
        due("the first and the last year", quarrels(agreed("(g<50);y0-0", "(g>49);y99-99")), 0);
        due("the last year", quarrels(agreed("(g<50);y99-99", "(g>49)")), 11);
        due("with the empty one", quarrels(agreed("(g<0)", "n1")), 11);
        due("with itself, empty", agreed("(g<0)").terms(0, 0, 2), 1);
        due("with itself, not empty", agreed("(g<1)").terms(0, 0, 2), 0);
        int[][] schools = {{0, 1, 1, 0, 11}, {0, 1, 0, 2, 0}, {0, 1, 2, 1, 0}, {2, 1, 1, 2, 11}, {0, 1, 2, 3, 0},
            {1, 0, 2, 0, 0}};
        for (int[] w : schools) {
            StudentSwaps x = office(4);
            agree(x, w[0], w[1], "(g<50)");
            agree(x, w[2], w[3], "(g>49)");
            due("schools " + w[0] + w[1] + w[2] + w[3], quarrels(x), w[4]);
        }
    }

    private static void terms() {
        sentence("Of AGREEMENTS x and y, what 0 whether x is EMPTY, 1 whether x SAYS NO MORE than y, 2 whether they"
                + " QUARREL (1, 0). NONE for others.");
        for (int what = 0; what < 3; what++) {
            int asked = what;
            takes("x, of one", 0, 0, n -> agreed("n1").terms(n, 0, asked) != NONE);
            takes("y, of one", 0, 0, n -> agreed("n1").terms(0, n, asked) != NONE);
            takes("x, of three", 0, 2, n -> agreed("n1", "n1", "n1").terms(n, 2, asked) != NONE);
            takes("y, of three", 0, 2, n -> agreed("n1", "n1", "n1").terms(2, n, asked) != NONE);
        }
        takes("what", 0, 2, n -> agreed("n1").terms(0, 0, n) != NONE);
        StudentSwaps x = agreed("(g<0)", "(g<1)");
        due("x alone is asked for what 0", x.terms(0, 1, 0) * 10 + x.terms(1, 0, 0), 10);
    }
}
