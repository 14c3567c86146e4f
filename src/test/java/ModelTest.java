import java.util.ArrayList;
import java.util.Arrays;
import java.util.List;
import java.util.Random;

/** Random runs, of fixed seeds, whose every answer is compared with that of a plain model which tries everything. */
public final class ModelTest {
    private static final int NONE = -1;
    private static final int RUNS = 800;
    private static final int CALLS = 512;

    private final Random random;
    private final StudentSwaps program = new StudentSwaps();
    private final Model model = new Model();
    private final List<String> calls = new ArrayList<>();
    private final boolean isWild;
    /** Many are PLACED, and stay so for long. */
    private final boolean isBusy;
    private boolean isWrong = false;

    private ModelTest(long seed) {
        random = new Random(seed);
        isWild = seed % 5 == 4;
        isBusy = seed % 5 < 3;
    }

    public static void main(String[] args) {
        int wrong = 0;
        long answers = 0;
        int[] reached = new int[8];
        for (int seed = 0; seed < RUNS && wrong < 5; seed++) {
            ModelTest run = new ModelTest(seed);
            run.play();
            answers += run.calls.size();
            run.model.addReached(reached);
            if (run.isWrong) {
                wrong++;
                System.out.println("run of seed " + seed + ":");
                for (String call : run.calls) {
                    System.out.println("  " + call);
                }
            }
        }
        System.out.println(answers + " answers compared, " + wrong + " runs wrong; faults, terms true, rounds, mends that move, "
                + "mends that can't be, not kept, doubts, crowded: " + Arrays.toString(reached));
        boolean isIdle = Arrays.stream(reached).anyMatch(n -> n < 20);
        if (wrong != 0 || isIdle) {
            System.exit(1);
        }
    }

    private void play() {
        int schools = 2 + random.nextInt(4);
        for (int h = 0; h < schools; h++) {
            callSchool();
        }
        int agreements = 1 + random.nextInt(6);
        for (int x = 0; x < agreements; x++) {
            callAgreement();
        }
        int students = 1 + random.nextInt(16);
        for (int s = 0; s < students; s++) {
            callStudent();
            for (int w = random.nextInt(5); w > 0; w--) {
                compare("wish", s, pick(schools));
            }
        }
        while (!isWrong && calls.size() < CALLS - 60) {
            callAny();
        }
    }

    /** A number below n; in wild runs now and then a wrong one. */
    private int pick(int n) {
        if (isWild && random.nextInt(12) == 0) {
            int[] odd = {-1, -2, n, n + 1, Integer.MIN_VALUE, Integer.MAX_VALUE, 360, 100000};
            return odd[random.nextInt(odd.length)];
        }
        return n <= 0 ? 0 : random.nextInt(n);
    }

    private int school() {
        return pick(model.schools.size() + (random.nextInt(40) == 0 ? 1 : 0));
    }

    private int student() {
        return pick(model.students.size() + (random.nextInt(40) == 0 ? 1 : 0));
    }

    private int anAgreement() {
        return pick(model.agreements.size() + (random.nextInt(40) == 0 ? 1 : 0));
    }

    private int day() {
        return pick(360);
    }

    private void callSchool() {
        int from = random.nextInt(200);
        int to = from + 1 + random.nextInt(random.nextBoolean() ? 20 : 159);
        compare("school", pick(3), pick(2), pick(4), pick(4), random.nextInt(30) == 0 ? to : from, to, pick(3000));
    }

    private void callStudent() {
        compare("student", school(), pick(8), pick(101), pick(100), pick(4096));
    }

    private void callAgreement() {
        String text = text();
        for (int i = 0; i < text.length(); i += 20) {
            compare("feed", word(text, i), word(text, i + 4), word(text, i + 8), word(text, i + 12), word(text, i + 16));
        }
        compare("agreement", school(), school(), text.length() + (random.nextInt(30) == 0 ? 1 : 0));
    }

    private static int word(String text, int at) {
        int word = 0;
        for (int i = at; i < at + 4; i++) {
            word = word << 8 | (i < text.length() ? text.charAt(i) & 255 : 0);
        }
        return word;
    }

    private String text() {
        if (isBusy && random.nextInt(4) != 0) {
            String weak = random.nextInt(3) == 0 ? ";(t<" + (1 + random.nextInt(9)) + ")" : "";
            return "n" + (1 + random.nextInt(5)) + ";b" + random.nextInt(9) + ";p" + random.nextInt(99) + weak;
        }
        StringBuilder text = new StringBuilder();
        int clauses = 1 + random.nextInt(4);
        for (int i = 0; i < clauses; i++) {
            if (i > 0) {
                text.append(';');
            }
            switch (random.nextInt(6)) {
                case 0:
                    text.append('n').append(random.nextInt(6));
                    break;
                case 1:
                    text.append('b').append(random.nextInt(5));
                    break;
                case 2:
                    text.append('p').append(random.nextInt(10000));
                    break;
                case 3:
                    int first = random.nextInt(3);
                    text.append('y').append(first).append('-').append(first + random.nextInt(3));
                    break;
                default:
                    text.append('(').append(expression(random.nextInt(3))).append(')');
            }
        }
        if (random.nextInt(6) == 0) {
            String signs = "nbpy;-()|&!gtcs<>=0123456789 x";
            int at = random.nextInt(text.length() + 1);
            char sign = signs.charAt(random.nextInt(signs.length()));
            int kind = random.nextInt(3);
            if (kind == 0 || at == text.length()) {
                text.insert(at, sign);
            } else if (kind == 1) {
                text.deleteCharAt(at);
            } else {
                text.setCharAt(at, sign);
            }
        }
        if (random.nextInt(60) == 0) {
            text.insert(0, "(((((((".substring(random.nextInt(7)));
        }
        text.setLength(Math.min(text.length(), 60));
        return text.length() == 0 ? "n1" : text.toString();
    }

    private String expression(int depth) {
        StringBuilder text = new StringBuilder();
        int factors = 1 + random.nextInt(3);
        for (int i = 0; i < factors; i++) {
            if (i > 0) {
                text.append(random.nextBoolean() ? '|' : '&');
            }
            for (int n = random.nextInt(3); n > 1 || (n == 1 && random.nextBoolean()); n--) {
                text.append('!');
            }
            if (depth > 0 && random.nextInt(3) == 0) {
                text.append('(').append(expression(depth - 1)).append(')');
            } else {
                int letter = random.nextInt(4);
                int[] bounds = {104, 12, 104, 10};
                text.append("gtcs".charAt(letter)).append("<>=".charAt(random.nextInt(3)));
                text.append(random.nextInt(30) == 0 ? random.nextInt(10000) : random.nextInt(bounds[letter]));
            }
        }
        return text.toString();
    }

    private void callAny() {
        if (isBusy && random.nextInt(4) == 0) {
            callBusy();
            return;
        }
        switch (random.nextInt(40)) {
            case 0:
                compare("land", pick(4), pick(60), pick(120));
                break;
            case 1:
            case 2:
                compare("had", pick(4), pick(11), random.nextInt(3) == 0 ? pick(1000) : random.nextInt(3));
                break;
            case 3:
            case 4:
            case 5:
                compare("turn", pick(4), pick(4), pick(11), pick(4));
                break;
            case 6:
                compare("beds", school(), pick(5));
                break;
            case 7:
                callAgreement();
                break;
            case 8:
                compare("meets", anAgreement(), pick(101), pick(10), pick(100), pick(8));
                break;
            case 9:
                if (!isBusy || random.nextInt(4) == 0) {
                    compare("terms", anAgreement(), anAgreement(), pick(3));
                }
                break;
            case 10:
                if (random.nextInt(4) == 0) {
                    callStudent();
                } else {
                    callSchool();
                }
                break;
            case 11:
                compare("level", student(), pick(2), pick(11) - 1);
                break;
            case 12:
            case 13:
                compare("wish", student(), school());
                break;
            case 14:
            case 15:
                compare("may", student(), school());
                break;
            case 16:
                compare("round");
                break;
            case 17:
                if (!isBusy || random.nextInt(3) == 0) {
                    compare("out", student());
                }
                break;
            case 18:
                compare("mend");
                break;
            case 19:
                compare("kept");
                break;
            case 20:
                compare("balance", anAgreement());
                break;
            case 21:
                compare("course", school(), pick(4096) & pick(4096), 1 + pick(9), pick(4), pick(1 << 20) & pick(1 << 20) & pick(1 << 20));
                break;
            case 22:
                compare("cancel", school(), pick(6), random.nextInt(2));
                break;
            case 23:
            case 24:
                compare("study", student(), school(), pick(3));
                break;
            case 25:
            case 26:
            case 27:
            case 28:
                int late = model.latest + (random.nextInt(3) == 0 ? random.nextInt(9) - 1 : 0);
                compare("fact", student(), pick(4), random.nextInt(9) == 0 ? NONE : day(), isWild ? day() : late);
                break;
            case 29:
                compare("known", student(), pick(4), random.nextInt(2) == 0 ? day() : model.latest);
                break;
            case 30:
                compare("visa", student(), random.nextInt(2) == 0 ? day() : model.latest);
                break;
            case 31:
                compare("there", school(), day(), random.nextInt(2) == 0 ? day() : model.latest);
                break;
            case 32:
                compare("counts", student(), pick(2), random.nextInt(2) == 0 ? day() : model.latest);
                break;
            case 33:
                compare("crowded", school(), random.nextInt(2) == 0 ? day() : model.latest);
                break;
            case 34:
                if (random.nextInt(isBusy ? 12 : 3) == 0) {
                    compare("year");
                }
                break;
            case 35:
                compare("owed", school());
                break;
            case 36:
            case 37:
                compare("look", student(), pick(25));
                break;
            case 38:
                compare("about", anAgreement(), pick(11));
                break;
            default:
                compare("count", pick(41));
        }
    }

    private void callBusy() {
        int h = school();
        switch (random.nextInt(7)) {
            case 0:
                compare("round");
                break;
            case 1:
                compare("beds", h, 1 + random.nextInt(9));
                break;
            case 2:
                compare("beds", h, Math.max(0, Math.min(9, (int) model.answer("count", new int[] {20 + h}) - random.nextInt(2))));
                compare("crowded", h, 359);
                compare("kept");
                break;
            case 3:
                compare("mend");
                break;
            default:
                int s = student();
                compare("fact", s, 2, random.nextInt(200), model.latest);
                compare("fact", s, 3, random.nextInt(3) == 0 ? NONE : 150 + random.nextInt(210), model.latest);
                compare("counts", s, random.nextInt(2), model.latest);
        }
    }

    private void compare(String name, int... a) {
        if (isWrong) {
            return;
        }
        long want = model.answer(name, a);
        long got = ask(program, name, a);
        isWrong = got != want;
        calls.add(name + Arrays.toString(a) + " = " + got + (isWrong ? ", due is " + want : ""));
    }

    private static long ask(StudentSwaps x, String name, int[] a) {
        switch (name) {
            case "land": return x.land(a[0], a[1], a[2]) ? 1 : 0;
            case "had": return x.had(a[0], a[1], a[2]) ? 1 : 0;
            case "turn": return x.turn(a[0], a[1], a[2], a[3]);
            case "school": return x.school(a[0], a[1], a[2], a[3], a[4], a[5], a[6]);
            case "beds": return x.beds(a[0], a[1]) ? 1 : 0;
            case "feed": return x.feed(a[0], a[1], a[2], a[3], a[4]);
            case "agreement": return x.agreement(a[0], a[1], a[2]);
            case "meets": return x.meets(a[0], a[1], a[2], a[3], a[4]);
            case "terms": return x.terms(a[0], a[1], a[2]);
            case "student": return x.student(a[0], a[1], a[2], a[3], a[4]);
            case "level": return x.level(a[0], a[1], a[2]) ? 1 : 0;
            case "wish": return x.wish(a[0], a[1]) ? 1 : 0;
            case "may": return x.may(a[0], a[1]);
            case "round": return x.round();
            case "out": return x.out(a[0]) ? 1 : 0;
            case "mend": return x.mend();
            case "kept": return x.kept();
            case "balance": return x.balance(a[0]);
            case "course": return x.course(a[0], a[1], a[2], a[3], a[4]);
            case "cancel": return x.cancel(a[0], a[1], a[2] == 1) ? 1 : 0;
            case "study": return x.study(a[0], a[1], a[2]);
            case "fact": return x.fact(a[0], a[1], a[2], a[3]) ? 1 : 0;
            case "known": return x.known(a[0], a[1], a[2]);
            case "visa": return x.visa(a[0], a[1]);
            case "there": return x.there(a[0], a[1], a[2]);
            case "counts": return x.counts(a[0], a[1], a[2]);
            case "crowded": return x.crowded(a[0], a[1]);
            case "year": return x.year();
            case "owed": return x.owed(a[0]);
            case "look": return x.look(a[0], a[1]);
            case "about": return x.about(a[0], a[1]);
            case "count": return x.count(a[0]);
            default: throw new IllegalArgumentException(name);
        }
    }

    /** The document, sentence by sentence; slow, and without a thought for room. */
    private static final class Model {
        final List<int[]> schools = new ArrayList<>();
        final List<List<int[]>> courses = new ArrayList<>();
        final List<Text> agreements = new ArrayList<>();
        final List<int[]> parties = new ArrayList<>();
        final List<Person> students = new ArrayList<>();
        final int[][] lands = {{10, 30}, {10, 30}, {10, 30}, {10, 30}};
        final int[][] had = new int[4][11];
        private List<Integer> tape = new ArrayList<>();
        private List<int[]> facts = new ArrayList<>();
        private int told = 0;
        int latest = 0;
        private int year = 0;
        private final int[] reached = new int[8];

        Model() {
            for (int[] row : had) {
                Arrays.fill(row, 1);
            }
        }

        void addReached(int[] sums) {
            for (int i = 0; i < sums.length; i++) {
                sums[i] += reached[i];
            }
        }

        long answer(String name, int[] a) {
            switch (name) {
                case "land": return land(a) ? 1 : 0;
                case "had": return had(a) ? 1 : 0;
                case "turn": return turn(a[0], a[1], a[2], a[3]);
                case "school": return school(a);
                case "beds": return beds(a[0], a[1]) ? 1 : 0;
                case "feed": return feed(a);
                case "agreement": return agreement(a[0], a[1], a[2]);
                case "meets": return meets(a);
                case "terms": return terms(a[0], a[1], a[2]);
                case "student": return student(a);
                case "level": return level(a[0], a[1], a[2]) ? 1 : 0;
                case "wish": return wish(a[0], a[1]) ? 1 : 0;
                case "may": return may(a[0], a[1]);
                case "round": return round();
                case "out": return out(a[0]) ? 1 : 0;
                case "mend": return mend();
                case "kept": return isKept() ? 1 : tick(5, 0);
                case "balance": return a[0] >= 0 && a[0] < agreements.size() ? balance(a[0]) : 0;
                case "course": return course(a);
                case "cancel": return cancel(a[0], a[1], a[2]) ? 1 : 0;
                case "study": return isStudent(a[0]) && isSchool(a[1]) && in(a[2], 0, 2) ? study(a[0], a[1])[a[2]] : NONE;
                case "fact": return fact(a) ? 1 : 0;
                case "known": return isStudent(a[0]) && in(a[1], 0, 3) && in(a[2], 0, 359) ? known(a[0], a[1], a[2]) : NONE;
                case "visa": return visa(a[0], a[1]);
                case "there": return isSchool(a[0]) && in(a[1], 0, 359) && in(a[2], 0, 359) ? there(a[0], a[1], a[2]) : NONE;
                case "counts": return counts(a[0], a[1], a[2]);
                case "crowded": return crowded(a[0], a[1]);
                case "year": return nextYear();
                case "owed": return owed(a[0]);
                case "look": return look(a[0], a[1]);
                case "about": return about(a[0], a[1]);
                case "count": return count(a[0]);
                default: throw new IllegalArgumentException(name);
            }
        }

        private int tick(int what, int answer) {
            reached[what]++;
            return answer;
        }

        private static boolean in(long n, long least, long most) {
            return n >= least && n <= most;
        }

        private boolean isSchool(int h) {
            return in(h, 0, schools.size() - 1);
        }

        private boolean isStudent(int s) {
            return in(s, 0, students.size() - 1);
        }

        private boolean isAgreement(int x) {
            return in(x, 0, agreements.size() - 1);
        }

        private boolean land(int[] a) {
            if (!in(a[0], 0, 3) || !in(a[1], 0, 200) || !in(a[2], 0, 200) || a[2] < a[1]) {
                return false;
            }
            lands[a[0]] = new int[] {a[1], a[2]};
            return true;
        }

        private boolean had(int[] a) {
            if (!in(a[0], 0, 3) || !in(a[1], 0, 10) || !in(a[2], 0, 999)) {
                return false;
            }
            had[a[0]][a[1]] = a[2];
            return true;
        }

        /** The SPAN of each MARK, as its ends through a common divisor: all of the one times all of the other, twice. */
        private int turn(int from, int to, int mark, int what) {
            if (!in(from, 0, 3) || !in(to, 0, 3) || !in(mark, 0, 10) || !in(what, 0, 2)) {
                return NONE;
            }
            long all = Arrays.stream(had[from]).sum();
            long other = Arrays.stream(had[to]).sum();
            if (all == 0 || other == 0) {
                return NONE;
            }
            long below = Arrays.stream(had[from], 0, mark).sum();
            long here = had[from][mark];
            long middle = (2 * below + here) * other;
            int turned = NONE;
            int least = NONE;
            int greatest = NONE;
            int highest = NONE;
            for (int m = 0; m <= 10; m++) {
                long low = 2 * all * Arrays.stream(had[to], 0, m).sum();
                long high = low + 2 * all * had[to][m];
                if (had[to][m] > 0) {
                    highest = m;
                    if (low <= middle && middle < high) {
                        turned = m;
                    }
                    if (Math.min(high, 2 * other * (below + here)) > Math.max(low, 2 * other * below)) {
                        least = least == NONE ? m : least;
                        greatest = m;
                    }
                }
            }
            turned = middle == 2 * all * other ? highest : turned;
            if (what == 0 || here == 0) {
                return turned;
            }
            if (least != greatest) {
                tick(6, 0);
            }
            return what == 1 ? least : greatest;
        }

        private int school(int[] a) {
            if (!in(a[0], 0, 3) || !in(a[1], 0, 3) || !in(a[2], 0, 9) || !in(a[3], 0, 3) || !in(a[4], 0, 359)
                    || !in(a[5], 0, 359) || a[5] <= a[4] || !in(a[6], 0, 99999) || schools.size() == 8) {
                return NONE;
            }
            schools.add(a.clone());
            courses.add(new ArrayList<>());
            return schools.size() - 1;
        }

        private boolean beds(int h, int n) {
            if (!isSchool(h) || !in(n, 0, 9)) {
                return false;
            }
            schools.get(h)[2] = n;
            return true;
        }

        private int feed(int[] a) {
            if (tape.size() > 60) {
                return NONE;
            }
            for (int word : a) {
                for (int i = 3; i >= 0; i--) {
                    tape.add(word >> 8 * i & 255);
                }
            }
            return tape.size();
        }

        private int agreement(int a, int b, int n) {
            if (!isSchool(a) || !isSchool(b) || a == b || !in(n, 1, 60) || n > tape.size() || agreements.size() == 12) {
                return NONE;
            }
            StringBuilder text = new StringBuilder();
            for (int i = 0; i < n; i++) {
                text.append((char) (int) tape.get(i));
            }
            tape = new ArrayList<>();
            Text made = new Text(text.toString());
            if (made.fault != 0) {
                return tick(0, made.fault);
            }
            agreements.add(made);
            parties.add(new int[] {a, b});
            return agreements.size() - 1;
        }

        private int meets(int[] a) {
            if (!isAgreement(a[0]) || !in(a[1], 0, 100) || !in(a[2], 0, 9) || !in(a[3], 0, 99) || !in(a[4], 0, 7)) {
                return NONE;
            }
            return agreements.get(a[0]).isMet(a[1], a[2], a[3], a[4]) ? 1 : 0;
        }

        private int terms(int x, int y, int what) {
            if (!isAgreement(x) || !isAgreement(y) || !in(what, 0, 2)) {
                return NONE;
            }
            Text one = agreements.get(x);
            Text other = agreements.get(y);
            int[] p = parties.get(x);
            int[] q = parties.get(y);
            if (what == 2) {
                boolean isSame = (p[0] == q[0] && p[1] == q[1]) || (p[0] == q[1] && p[1] == q[0]);
                boolean isTogether = false;
                for (int i = 0; i <= 99; i++) {
                    isTogether |= one.isInForce(i) && other.isInForce(i);
                }
                if (!isSame || !isTogether) {
                    return 0;
                }
            }
            for (int grade = 0; grade <= 100; grade++) {
                for (int level = 0; level <= 9; level++) {
                    for (int credits = 0; credits <= 99; credits++) {
                        for (int subject = 0; subject <= 7; subject++) {
                            boolean first = one.isMet(grade, level, credits, subject);
                            boolean second = what != 0 && other.isMet(grade, level, credits, subject);
                            if ((what == 0 && first) || (what == 1 && second && !first) || (what == 2 && first && second)) {
                                return 0;
                            }
                        }
                    }
                }
            }
            return tick(1, 1);
        }

        private int student(int[] a) {
            if (!isSchool(a[0]) || !in(a[1], 0, 7) || !in(a[2], 0, 100) || !in(a[3], 0, 99) || !in(a[4], 0, 4095)
                    || students.size() == 16) {
                return NONE;
            }
            Person one = new Person();
            one.self = a.clone();
            students.add(one);
            return students.size() - 1;
        }

        private boolean level(int s, int tongue, int n) {
            if (!isStudent(s) || !in(tongue, 0, 3) || !in(n, -1, 9)) {
                return false;
            }
            students.get(s).tests[tongue] = n;
            return true;
        }

        private boolean wish(int s, int h) {
            if (!isStudent(s) || !isSchool(h)) {
                return false;
            }
            Person one = students.get(s);
            if (one.self[0] == h || one.wishes.contains(h) || one.wishes.size() == 4 || one.state != 0) {
                return false;
            }
            one.wishes.add(h);
            return true;
        }

        private int may(int s, int h) {
            if (!isStudent(s) || !isSchool(h)) {
                return NONE;
            }
            Person one = students.get(s);
            for (int x = 0; x < agreements.size(); x++) {
                int[] p = parties.get(x);
                boolean isBetween = (p[0] == one.self[0] && p[1] == h) || (p[1] == one.self[0] && p[0] == h);
                if (isBetween && agreements.get(x).isInForce(year)
                        && agreements.get(x).isMet(one.self[2], levelAt(s, h), one.self[3], one.self[1])) {
                    return x;
                }
            }
            return NONE;
        }

        private int levelAt(int s, int h) {
            int test = students.get(s).tests[schools.get(h)[1]];
            return test == NONE ? 0 : test;
        }

        private int balance(int x) {
            int sum = 0;
            for (Person one : students) {
                if ((one.state == 1 || one.state == 3) && one.by == x) {
                    sum += one.self[0] == parties.get(x)[0] ? 1 : -1;
                }
            }
            return sum;
        }

        private boolean isKept() {
            for (int x = 0; x < agreements.size(); x++) {
                if (agreements.get(x).isInForce(year)) {
                    int[] ways = new int[2];
                    for (Person one : students) {
                        if (one.state == 1 && one.by == x) {
                            ways[one.self[0] == parties.get(x)[0] ? 0 : 1]++;
                        }
                    }
                    Text text = agreements.get(x);
                    if (ways[0] > text.values[0] || ways[1] > text.values[0] || Math.abs(balance(x)) > text.values[1]) {
                        return false;
                    }
                }
            }
            for (int h = 0; h < schools.size(); h++) {
                if (placedAt(h) > schools.get(h)[2]) {
                    return false;
                }
            }
            return true;
        }

        private int placedAt(int h) {
            int sum = 0;
            for (Person one : students) {
                sum += one.host() == h ? 1 : 0;
            }
            return sum;
        }

        private List<Integer> bestRow;
        private int[] bestKey;
        private int[][] ways;

        /** All PLANS; a key is moves (fewest first), then first to fourth WISHES (most first). */
        private void tryAll(List<Integer> who, int[] hosts, List<Integer> row, boolean isMending) {
            int i = row.size();
            if (i == who.size()) {
                if (!isKept()) {
                    return;
                }
                int[] key = new int[5];
                for (int k = 0; k < i; k++) {
                    Person one = students.get(who.get(k));
                    key[0] -= isMending && one.host() != hosts[k] ? 1 : 0;
                    if (row.get(k) != 9) {
                        key[1 + row.get(k)]++;
                    }
                }
                if (bestKey == null || Arrays.compare(key, bestKey) > 0
                        || (Arrays.equals(key, bestKey) && isLess(row, bestRow))) {
                    bestKey = key;
                    bestRow = new ArrayList<>(row);
                }
                return;
            }
            Person one = students.get(who.get(i));
            // from the last one on, so that the choice of the least row is tested too
            for (int w = 9; w >= 0; w--) {
                if (w == 9 || (w < one.wishes.size() && ways[i][w] != NONE)) {
                    one.give(w, w == 9 ? NONE : ways[i][w]);
                    row.add(w);
                    tryAll(who, hosts, row, isMending);
                    row.remove(i);
                }
            }
        }

        private static boolean isLess(List<Integer> row, List<Integer> other) {
            for (int i = 0; i < row.size(); i++) {
                if (!row.get(i).equals(other.get(i))) {
                    return row.get(i) < other.get(i);
                }
            }
            return false;
        }

        private int plan(boolean isMending) {
            List<Integer> who = new ArrayList<>();
            for (int s = 0; s < students.size() && who.size() < 7; s++) {
                int state = students.get(s).state;
                if (state == 0 || (isMending && state == 1)) {
                    who.add(s);
                }
            }
            int[] hosts = new int[who.size()];
            int[][] before = new int[who.size()][];
            ways = new int[who.size()][4];
            for (int i = 0; i < hosts.length; i++) {
                Person one = students.get(who.get(i));
                hosts[i] = one.host();
                before[i] = new int[] {one.state == 1 ? one.served : 9, one.by};
                for (int w = 0; w < one.wishes.size(); w++) {
                    ways[i][w] = may(who.get(i), one.wishes.get(w));
                }
            }
            bestKey = null;
            bestRow = null;
            tryAll(who, hosts, new ArrayList<>(), isMending);
            int moved = 0;
            for (int i = 0; i < hosts.length; i++) {
                Person one = students.get(who.get(i));
                if (bestRow == null) {
                    one.give(before[i][0], before[i][1]);
                } else {
                    int w = bestRow.get(i);
                    one.give(w, w == 9 ? NONE : ways[i][w]);
                    if (one.host() != hosts[i]) {
                        moved++;
                        forget(who.get(i));
                    }
                }
            }
            return bestRow == null ? NONE : moved;
        }

        private int round() {
            int placed = Math.max(0, plan(false));
            return placed > 0 ? tick(2, placed) : 0;
        }

        private int mend() {
            int moved = plan(true);
            if (moved == NONE) {
                return tick(4, NONE);
            }
            return moved > 0 ? tick(3, moved) : 0;
        }

        private boolean out(int s) {
            if (!isStudent(s) || students.get(s).state > 1) {
                return false;
            }
            students.get(s).give(9, NONE);
            students.get(s).state = 2;
            forget(s);
            return true;
        }

        private int course(int[] a) {
            if (!isSchool(a[0]) || !in(a[1], 0, 4095) || !in(a[2], 1, 9) || !in(a[3], 0, 9) || !in(a[4], 0, (1 << 20) - 1)
                    || courses.get(a[0]).size() == 6) {
                return NONE;
            }
            courses.get(a[0]).add(new int[] {a[1], a[2], a[3], a[4], 0});
            return courses.get(a[0]).size() - 1;
        }

        private boolean cancel(int h, int c, int is) {
            if (!isSchool(h) || !in(c, 0, courses.get(h).size() - 1) || courses.get(h).get(c)[4] == is) {
                return false;
            }
            courses.get(h).get(c)[4] = is;
            return true;
        }

        private int[] study(int s, int h) {
            int needs = students.get(s).self[4];
            List<int[]> all = courses.get(h);
            int[] best = {0, 0, needs};
            for (int set = 0; set < 1 << all.size(); set++) {
                boolean isRight = true;
                int credits = 0;
                int topics = 0;
                for (int c = 0; c < all.size(); c++) {
                    if ((set >> c & 1) != 0) {
                        int[] course = all.get(c);
                        isRight &= course[4] == 0 && course[2] <= levelAt(s, h);
                        for (int d = 0; d < c; d++) {
                            isRight &= (set >> d & 1) == 0 || (all.get(d)[3] & course[3]) == 0;
                        }
                        credits += course[1];
                        topics |= course[0];
                    }
                }
                int lacking = needs & ~topics;
                int fewer = Integer.bitCount(best[2]) - Integer.bitCount(lacking);
                if (isRight && credits <= 12 && (fewer > 0 || (fewer == 0 && credits < best[1]))) {
                    best = new int[] {set, credits, lacking};
                }
            }
            return best;
        }

        private void forget(int s) {
            facts.removeIf(f -> f[0] == s);
        }

        private boolean fact(int[] a) {
            if (!isStudent(a[0]) || !in(a[1], 0, 3) || !in(a[2], -1, 359) || !in(a[3], 0, 359)
                    || students.get(a[0]).state != 1 || a[3] < latest || told == 200) {
                return false;
            }
            facts.add(a.clone());
            told++;
            latest = a[3];
            return true;
        }

        private int known(int s, int what, int on) {
            int day = NONE;
            for (int[] f : facts) {
                if (f[0] == s && f[1] == what && f[3] <= on) {
                    day = f[2];
                }
            }
            return day;
        }

        private int visa(int s, int on) {
            if (!isStudent(s) || !in(on, 0, 359) || students.get(s).state != 1) {
                return NONE;
            }
            int[] host = schools.get(students.get(s).host());
            int[] home = schools.get(students.get(s).self[0]);
            int had = known(s, 1, on);
            int asked = known(s, 0, on);
            if (host[0] == home[0]) {
                return 2;
            }
            if (had != NONE) {
                return had > host[4] ? 0 : 2;
            }
            if (asked == NONE || asked + lands[host[0]][0] > host[4]) {
                return 0;
            }
            return asked + lands[host[0]][1] > host[4] ? 1 : 2;
        }

        private boolean isThere(int s, int day, int on) {
            int[] host = schools.get(students.get(s).host());
            int came = known(s, 2, on);
            int went = known(s, 3, on);
            return came != NONE && came <= day && (went == NONE || went > day) && day >= host[4] && day <= host[5];
        }

        private int there(int h, int day, int on) {
            int sum = 0;
            for (int s = 0; s < students.size(); s++) {
                sum += students.get(s).host() == h && isThere(s, day, on) ? 1 : 0;
            }
            return sum;
        }

        private int counts(int s, int what, int on) {
            if (!isStudent(s) || !in(what, 0, 1) || !in(on, 0, 359) || students.get(s).state != 1) {
                return NONE;
            }
            int h = students.get(s).host();
            int days = 0;
            int all = 0;
            for (int day = schools.get(h)[4]; day <= schools.get(h)[5]; day++) {
                all++;
                days += isThere(s, day, on) ? 1 : 0;
            }
            if (what == 0) {
                return study(s, h)[1] * days / all;
            }
            return schools.get(students.get(s).self[0])[6] * (all - days) / all;
        }

        private int crowded(int h, int on) {
            if (!isSchool(h) || !in(on, 0, 359)) {
                return NONE;
            }
            for (int day = 0; day < 360; day++) {
                if (there(h, day, on) > schools.get(h)[2]) {
                    return tick(7, day);
                }
            }
            return NONE;
        }

        private int nextYear() {
            if (year == 99) {
                return NONE;
            }
            year++;
            for (Person one : students) {
                one.state = one.state == 1 ? 3 : one.state == 2 ? 0 : one.state;
            }
            facts = new ArrayList<>();
            told = 0;
            latest = 0;
            return year;
        }

        private long owed(int h) {
            long sum = 0;
            for (int x = 0; x < agreements.size(); x++) {
                int pence = agreements.get(x).values[2] * Math.abs(balance(x));
                int getter = balance(x) > 0 ? parties.get(x)[1] : parties.get(x)[0];
                int giver = balance(x) > 0 ? parties.get(x)[0] : parties.get(x)[1];
                sum += (getter == h ? pence : 0) - (giver == h ? pence : 0);
            }
            return sum;
        }

        private int look(int s, int what) {
            if (!isStudent(s)) {
                return NONE;
            }
            Person one = students.get(s);
            boolean isPlaced = one.state == 1;
            if (in(what, 4, 8)) {
                return one.self[what - 4];
            }
            if (in(what, 10, 13)) {
                return what - 10 < one.wishes.size() ? one.wishes.get(what - 10) : NONE;
            }
            if (in(what, 20, 23)) {
                return one.tests[what - 20];
            }
            int[] first = {one.state, one.host(), isPlaced ? one.by : NONE, isPlaced ? one.served : NONE};
            return in(what, 0, 3) ? first[what] : what == 9 ? one.wishes.size() : NONE;
        }

        private int about(int x, int what) {
            if (!isAgreement(x) || !in(what, 0, 9)) {
                return NONE;
            }
            Text text = agreements.get(x);
            if (what < 2) {
                return parties.get(x)[what];
            }
            if (what < 7) {
                return text.values[what - 2];
            }
            int placed = 0;
            for (Person one : students) {
                placed += one.state == 1 && one.by == x ? 1 : 0;
            }
            return what == 7 ? text.expressions.size() : what == 8 ? placed : text.isInForce(year) ? 1 : 0;
        }

        private int count(int what) {
            if (in(what, 10, 39)) {
                int h = what % 10;
                if (!isSchool(h)) {
                    return NONE;
                }
                return what < 20 ? schools.get(h)[2] : what < 30 ? placedAt(h) : courses.get(h).size();
            }
            int[] states = new int[4];
            for (Person one : students) {
                states[one.state]++;
            }
            int[] all = {year, schools.size(), agreements.size(), students.size(), states[0], states[1], states[2],
                states[3], told, tape.size()};
            return in(what, 0, 9) ? all[what] : NONE;
        }
    }

    private static final class Person {
        int[] self;
        final int[] tests = {NONE, NONE, NONE, NONE};
        final List<Integer> wishes = new ArrayList<>();
        int state = 0;
        int served = NONE;
        int by = NONE;

        int host() {
            return state == 1 ? wishes.get(served) : NONE;
        }

        void give(int wish, int agreement) {
            state = wish == 9 ? 0 : 1;
            served = wish;
            by = agreement;
        }
    }

    /**
     * A TEXT read sign by sign: what may stand next is a state. Its EXPRESSIONS are kept as texts
     * and become trees of anys and alls by being cut at their outermost | and &.
     */
    private static final class Text {
        final int[] values = {1, 1, 0, 0, 99};
        final List<Tree> expressions = new ArrayList<>();
        int fault = 0;

        Text(String text) {
            char state = 'C';
            char clause = 0;
            int open = 0;
            int begin = 0;
            int number = -1;
            int digits = 0;
            for (int i = 0; i <= text.length() && fault == 0; i++) {
                char c = i < text.length() ? text.charAt(i) : 0;
                boolean isEnd = i == text.length();
                if (state == 'D') {
                    if (!isEnd && c >= '0' && c <= '9') {
                        if (digits == 4) {
                            fault = -100 - i;
                        }
                        number = digits == 0 ? c - '0' : number * 10 + c - '0';
                        digits++;
                        continue;
                    }
                    if (digits == 0) {
                        fault = -100 - i;
                        continue;
                    }
                    if (!canBe(clause, number)) {
                        fault = -200 - (i - digits);
                        continue;
                    }
                    state = clause == 'y' ? '-' : clause == 'e' ? 'O' : ';';
                }
                if (state == ';' && isEnd) {
                    break;
                }
                if (isEnd) {
                    fault = -100 - i;
                } else if (state == ';' && c == ';') {
                    state = 'C';
                } else if (state == 'C' && "nbpy".indexOf(c) >= 0) {
                    clause = c;
                    state = 'D';
                    digits = 0;
                } else if (state == '-' && c == '-') {
                    clause = 'z';
                    state = 'D';
                    digits = 0;
                } else if ((state == 'C' || state == 'F') && c == '(') {
                    open++;
                    begin = open == 1 ? i : begin;
                    fault = open == 7 ? -300 - i : 0;
                    state = 'F';
                } else if (state == 'F' && c == '!') {
                    state = 'F';
                } else if (state == 'F' && "gtcs".indexOf(c) >= 0) {
                    state = 'S';
                } else if (state == 'S' && "<>=".indexOf(c) >= 0) {
                    clause = 'e';
                    state = 'D';
                    digits = 0;
                } else if (state == 'O' && (c == '|' || c == '&')) {
                    state = 'F';
                } else if (state == 'O' && c == ')') {
                    open--;
                    if (open == 0) {
                        expressions.add(new Tree(text.substring(begin + 1, i)));
                        state = ';';
                    }
                } else {
                    fault = -100 - i;
                }
            }
        }

        private boolean canBe(char clause, int number) {
            switch (clause) {
                case 'n':
                    values[0] = number;
                    return number <= 9;
                case 'b':
                    values[1] = number;
                    return number <= 99;
                case 'p':
                    values[2] = number;
                    return true;
                case 'y':
                    values[3] = number;
                    return number <= 99;
                case 'z':
                    values[4] = number;
                    return number <= 99 && number >= values[3];
                default:
                    return true;
            }
        }

        boolean isInForce(int year) {
            return values[3] <= year && year <= values[4];
        }

        boolean isMet(int grade, int level, int credits, int subject) {
            for (Tree tree : expressions) {
                if (!tree.holds(grade, level, credits, subject)) {
                    return false;
                }
            }
            return true;
        }
    }

    private static final class Tree {
        private char kind;
        private final List<Tree> parts = new ArrayList<>();
        private int letter;
        private char sign;
        private int number;

        Tree(String text) {
            if (cut(text, '|') || cut(text, '&')) {
                return;
            }
            if (text.charAt(0) == '!') {
                kind = '!';
                parts.add(new Tree(text.substring(1)));
            } else if (text.charAt(0) == '(') {
                kind = '&';
                parts.add(new Tree(text.substring(1, text.length() - 1)));
            } else {
                kind = 'c';
                letter = "gtcs".indexOf(text.charAt(0));
                sign = text.charAt(1);
                number = Integer.parseInt(text.substring(2));
            }
        }

        private boolean cut(String text, char at) {
            int open = 0;
            int begin = 0;
            for (int i = 0; i < text.length(); i++) {
                open += text.charAt(i) == '(' ? 1 : text.charAt(i) == ')' ? -1 : 0;
                if (open == 0 && text.charAt(i) == at) {
                    parts.add(new Tree(text.substring(begin, i)));
                    begin = i + 1;
                }
            }
            if (begin > 0) {
                kind = at;
                parts.add(new Tree(text.substring(begin)));
            }
            return begin > 0;
        }

        boolean holds(int grade, int level, int credits, int subject) {
            if (kind == 'c') {
                int n = letter == 0 ? grade : letter == 1 ? level : letter == 2 ? credits : subject;
                return sign == '<' ? n < number : sign == '>' ? n > number : n == number;
            }
            if (kind == '!') {
                return !parts.get(0).holds(grade, level, credits, subject);
            }
            for (Tree part : parts) {
                if (part.holds(grade, level, credits, subject) == (kind == '|')) {
                    return kind == '|';
                }
            }
            return kind == '&';
        }
    }
}
