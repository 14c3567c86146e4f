import java.util.ArrayList;
import java.util.Arrays;
import java.util.List;

/** An office that swaps students between schools; ../shared/DOC.md says what it promises. */
public final class StudentSwaps {
    public static final int NONE = -1;

    private static final int LANDS = 4;
    private static final int TONGUES = 4;
    private static final int LAST_YEAR = 99;
    private static final int DAYS = 360;
    private static final int MOST_VISA_DAYS = 200;
    private static final int MOST_SCHOOLS = 8;
    private static final int MOST_BEDS = 9;
    private static final int MOST_FEE = 99999;
    private static final int MOST_AGREEMENTS = 12;
    private static final int MOST_STUDENTS = 16;
    private static final int MOST_GRADE = 100;
    private static final int MOST_LEVEL = 9;
    private static final int MOST_CREDITS = 99;
    private static final int MOST_SUBJECT = 7;
    private static final int ALL_TOPICS = 4095;
    private static final int ALL_HOURS = 1048575;

    private static final int WAITING = 0;
    private static final int PLACED = 1;
    private static final int OUT = 2;
    private static final int DONE = 3;

    private static final int ASKED = 0;
    private static final int HAD = 1;
    private static final int CAME = 2;
    private static final int WENT = 3;

    private int yearNow = 0;
    private final int[] visaLeast = new int[LANDS];
    private final int[] visaMost = new int[LANDS];
    private final int[] guestsOn = new int[DAYS];
    private final Scales scales = new Scales();
    private final Tape tape = new Tape();
    private final TextReader reader = new TextReader();
    private final Grid grid = new Grid();
    private final Facts facts = new Facts();
    private final List<School> schools = new ArrayList<>();
    private final List<Agreement> agreements = new ArrayList<>();
    private final List<Student> students = new ArrayList<>();
    private final Plan plan = new Plan();

    public StudentSwaps() {
        Arrays.fill(visaLeast, 10);
        Arrays.fill(visaMost, 30);
    }

    public boolean land(int l, int least, int most) {
        if (!isIn(l, 0, LANDS - 1) || !isIn(least, 0, MOST_VISA_DAYS) || !isIn(most, least, MOST_VISA_DAYS)) {
            return false;
        }
        visaLeast[l] = least;
        visaMost[l] = most;
        return true;
    }

    public boolean had(int scale, int mark, int n) {
        return scales.setHad(scale, mark, n);
    }

    public int turn(int from, int to, int mark, int what) {
        if (!scales.isMark(from, mark) || !scales.isMark(to, mark) || !scales.canTurn(from, to)) {
            return NONE;
        }
        switch (what) {
            case 0:
                return scales.turned(from, to, mark);
            case 1:
                return scales.leastDoubt(from, to, mark);
            case 2:
                return scales.greatestDoubt(from, to, mark);
            default:
                return NONE;
        }
    }

    public int school(int land, int tongue, int beds, int scale, int from, int to, int fee) {
        boolean isPlaceRight = isIn(land, 0, LANDS - 1) && isIn(tongue, 0, TONGUES - 1)
                && isIn(beds, 0, MOST_BEDS) && isIn(scale, 0, Scales.SCALES - 1);
        boolean isTermRight = isDay(from) && isDay(to) && from < to;
        if (!isPlaceRight || !isTermRight || !isIn(fee, 0, MOST_FEE) || schools.size() >= MOST_SCHOOLS) {
            return NONE;
        }
        // No promise asks for a SCHOOL's SCALE again, so it is not kept.
        schools.add(new School(land, tongue, beds, from, to, fee));
        return schools.size() - 1;
    }

    public boolean beds(int h, int n) {
        School school = schoolAt(h);
        if (school == null || !isIn(n, 0, MOST_BEDS)) {
            return false;
        }
        school.beds = n;
        return true;
    }

    public int feed(int a, int b, int c, int d, int e) {
        if (!tape.hasRoom()) {
            return NONE;
        }
        tape.append(a);
        tape.append(b);
        tape.append(c);
        tape.append(d);
        tape.append(e);
        return tape.size;
    }

    public int agreement(int a, int b, int n) {
        if (schoolAt(a) == null || schoolAt(b) == null || a == b || agreements.size() >= MOST_AGREEMENTS
                || !isIn(n, 1, TextReader.MOST_BYTES) || n > tape.size) {
            return NONE;
        }
        int fault = reader.readText(tape.bytes, n);
        tape.size = 0;
        if (fault != 0) {
            return fault;
        }
        agreements.add(new Agreement(a, b, reader));
        return agreements.size() - 1;
    }

    public int meets(int x, int grade, int level, int credits, int subject) {
        Agreement agreement = agreementAt(x);
        if (agreement == null || !isIn(grade, 0, MOST_GRADE) || !isIn(level, 0, MOST_LEVEL)
                || !isIn(credits, 0, MOST_CREDITS) || !isIn(subject, 0, MOST_SUBJECT)) {
            return NONE;
        }
        return agreement.subjectsThatMeet(grade, level, credits) >> subject & 1;
    }

    public int terms(int x, int y, int what) {
        Agreement one = agreementAt(x);
        Agreement other = agreementAt(y);
        if (one == null || other == null) {
            return NONE;
        }
        switch (what) {
            case 0:
                return grid.haveCommon(one, one) ? 0 : 1;
            case 1:
                return grid.isBeyond(other, one) ? 0 : 1;
            case 2:
                return one.isBeside(other) && !grid.haveCommon(one, other) ? 1 : 0;
            default:
                return NONE;
        }
    }

    public int student(int home, int subject, int grade, int credits, int needs) {
        if (schoolAt(home) == null || !isIn(subject, 0, MOST_SUBJECT) || !isIn(grade, 0, MOST_GRADE)
                || !isIn(credits, 0, MOST_CREDITS) || !isIn(needs, 0, ALL_TOPICS)
                || students.size() >= MOST_STUDENTS) {
            return NONE;
        }
        students.add(new Student(home, subject, grade, credits, needs));
        return students.size() - 1;
    }

    public boolean level(int s, int tongue, int n) {
        Student one = studentAt(s);
        if (one == null || !isIn(tongue, 0, TONGUES - 1) || !isIn(n, NONE, MOST_LEVEL)) {
            return false;
        }
        one.tests[tongue] = n;
        return true;
    }

    public boolean wish(int s, int h) {
        Student one = studentAt(s);
        return one != null && schoolAt(h) != null && one.addWish(h);
    }

    public int may(int s, int h) {
        Student one = studentAt(s);
        return one == null ? NONE : agreementTo(one, h);
    }

    public int round() {
        preparePlan(Plan.SEVEN, false);
        return plan.isFound() ? carryOutPlan() : 0;
    }

    public boolean out(int s) {
        Student one = studentAt(s);
        if (one == null || (one.state != PLACED && one.state != WAITING)) {
            return false;
        }
        one.settle(NONE, NONE);
        one.state = OUT;
        facts.forget(s);
        return true;
    }

    public int mend() {
        preparePlan(Plan.SEVEN, true);
        return plan.isFound() ? carryOutPlan() : NONE;
    }

    public int kept() {
        preparePlan(0, false);
        return plan.isFound() ? 1 : 0;
    }

    public int balance(int x) {
        return balanceOf(x);
    }

    public int course(int h, int topics, int credits, int level, int hours) {
        School school = schoolAt(h);
        if (school == null || !isIn(topics, 0, ALL_TOPICS) || !isIn(credits, 1, Course.MOST_CREDITS)
                || !isIn(level, 0, MOST_LEVEL) || !isIn(hours, 0, ALL_HOURS)
                || school.courses.size() >= School.MOST_COURSES) {
            return NONE;
        }
        school.courses.add(new Course(topics, credits, level, hours));
        return school.courses.size() - 1;
    }

    public boolean cancel(int h, int c, boolean is) {
        School school = schoolAt(h);
        if (school == null || c < 0 || c >= school.courses.size()) {
            return false;
        }
        Course course = school.courses.get(c);
        if (course.isCancelled == is) {
            return false;
        }
        course.isCancelled = is;
        return true;
    }

    public int study(int s, int h, int what) {
        Student one = studentAt(s);
        School school = schoolAt(h);
        if (one == null || school == null || !isIn(what, 0, 2)) {
            return NONE;
        }
        int set = school.bestSet(one.needs, one.levelOf(school.tongue));
        if (what == 0) {
            return set;
        }
        return what == 1 ? school.creditsOf(set) : one.needs & ~school.topicsOf(set);
    }

    public boolean fact(int s, int what, int day, int told) {
        Student one = studentAt(s);
        if (one == null || one.state != PLACED || !isIn(what, ASKED, WENT) || !isDay(told)) {
            return false;
        }
        return (day == NONE || isDay(day)) && facts.tell(s, what, day, told);
    }

    public int known(int s, int what, int told) {
        if (studentAt(s) == null || !isIn(what, ASKED, WENT) || !isDay(told)) {
            return NONE;
        }
        return facts.dayOf(s, what, told);
    }

    public int visa(int s, int told) {
        Student one = studentAt(s);
        if (one == null || !isDay(told)) {
            return NONE;
        }
        School host = schoolAt(one.host());
        School home = schoolAt(one.home);
        if (host == null || home == null) {
            return NONE;
        }
        return host.land == home.land ? 2 : visaInTime(host, facts.dayOf(s, ASKED, told), facts.dayOf(s, HAD, told));
    }

    public int there(int h, int day, int told) {
        School school = schoolAt(h);
        if (school == null || !isDay(day) || !isDay(told)) {
            return NONE;
        }
        countGuests(h, school, told);
        return guestsOn[day];
    }

    public int counts(int s, int what, int told) {
        Student one = studentAt(s);
        if (one == null || !isIn(what, 0, 1) || !isDay(told)) {
            return NONE;
        }
        School host = schoolAt(one.host());
        School home = schoolAt(one.home);
        if (host == null || home == null) {
            return NONE;
        }
        int days = daysThere(s, host, told);
        if (what == 1) {
            return host.partOf(home.fee, host.termDays() - days);
        }
        int set = host.bestSet(one.needs, one.levelOf(host.tongue));
        return host.partOf(host.creditsOf(set), days);
    }

    public int crowded(int h, int told) {
        School school = schoolAt(h);
        if (school == null || !isDay(told)) {
            return NONE;
        }
        countGuests(h, school, told);
        for (int day = 0; day < DAYS; day++) {
            if (guestsOn[day] > school.beds) {
                return day;
            }
        }
        return NONE;
    }

    public int year() {
        if (yearNow >= LAST_YEAR) {
            return NONE;
        }
        yearNow++;
        for (int s = 0; s < students.size(); s++) {
            students.get(s).endYear();
        }
        facts.clear();
        return yearNow;
    }

    public long owed(int h) {
        long sum = 0;
        for (int x = 0; x < agreements.size(); x++) {
            Agreement agreement = agreements.get(x);
            long toSecond = (long) agreement.pence * balanceOf(x);
            if (agreement.second == h) {
                sum += toSecond;
            } else if (agreement.first == h) {
                sum -= toSecond;
            }
        }
        return sum;
    }

    public int look(int s, int what) {
        Student one = studentAt(s);
        if (one == null) {
            return NONE;
        }
        if (isIn(what, 20, 19 + TONGUES)) {
            return one.tests[what - 20];
        }
        if (isIn(what, 10, 9 + Student.MOST_WISHES)) {
            return one.wishAt(what - 10);
        }
        return what < 4 ? one.placeShown(what) : one.selfShown(what);
    }

    public int about(int x, int what) {
        Agreement agreement = agreementAt(x);
        if (agreement == null) {
            return NONE;
        }
        if (what == 8) {
            return placedBy(x);
        }
        return what == 9 ? (agreement.isInForce(yearNow) ? 1 : 0) : agreement.shown(what);
    }

    public int count(int what) {
        if (isIn(what, 4, 7)) {
            return inState(what - 4);
        }
        if (isIn(what, 10, 39)) {
            return shownOfSchool(what % 10, what / 10);
        }
        switch (what) {
            case 0:
                return yearNow;
            case 1:
                return schools.size();
            case 2:
                return agreements.size();
            case 3:
                return students.size();
            case 8:
                return facts.size;
            case 9:
                return tape.size;
            default:
                return NONE;
        }
    }

    private static boolean isIn(int n, int least, int most) {
        return n >= least && n <= most;
    }

    private static boolean isDay(int n) {
        return isIn(n, 0, DAYS - 1);
    }

    private School schoolAt(int h) {
        return h >= 0 && h < schools.size() ? schools.get(h) : null;
    }

    private Agreement agreementAt(int x) {
        return x >= 0 && x < agreements.size() ? agreements.get(x) : null;
    }

    private Student studentAt(int s) {
        return s >= 0 && s < students.size() ? students.get(s) : null;
    }

    private int agreementTo(Student one, int h) {
        School school = schoolAt(h);
        if (school == null) {
            return NONE;
        }
        int level = one.levelOf(school.tongue);
        for (int x = 0; x < agreements.size(); x++) {
            Agreement agreement = agreements.get(x);
            if (agreement.isInForce(yearNow) && agreement.isBetween(one.home, h)
                    && (agreement.subjectsThatMeet(one.grade, level, one.credits) >> one.subject & 1) == 1) {
                return x;
            }
        }
        return NONE;
    }

    /** Those who may be moved (the first, by numbers) go into the plan; all others stay as they are. */
    private void preparePlan(int most, boolean isMending) {
        plan.clear();
        setBounds();
        for (int s = 0; s < students.size(); s++) {
            Student one = students.get(s);
            boolean moves = one.state == WAITING || (isMending && one.state == PLACED);
            if (moves && plan.size < most) {
                addToPlan(s, one, isMending);
            } else if (one.state == PLACED) {
                plan.bounds.addGuests(one.by, one.host(), wayOf(one.home, one.by), 1);
            } else if (one.state == DONE) {
                plan.bounds.addToBalance(one.by, wayOf(one.home, one.by), 1);
            }
        }
    }

    private void setBounds() {
        for (int h = 0; h < schools.size(); h++) {
            plan.bounds.setBeds(h, schools.get(h).beds);
        }
        for (int x = 0; x < agreements.size(); x++) {
            Agreement agreement = agreements.get(x);
            if (agreement.isInForce(yearNow)) {
                plan.bounds.setAgreement(x, agreement.number, agreement.balance);
            }
        }
    }

    private void addToPlan(int s, Student one, boolean isMending) {
        int penalty = isMending ? Plan.MOVE : 0;
        int now = one.host();
        plan.addStudent(s);
        for (int w = 0; w < one.wishes; w++) {
            int h = one.wishAt(w);
            int x = agreementTo(one, h);
            if (x != NONE) {
                plan.addOption(w, h, x, wayOf(one.home, x), h == now ? 0 : penalty);
            }
        }
        plan.addNothing(now == NONE ? 0 : penalty);
    }

    /** What one of this HOME adds to the BALANCE of AGREEMENT x. */
    private int wayOf(int home, int x) {
        Agreement agreement = agreementAt(x);
        return agreement != null && agreement.first == home ? 1 : -1;
    }

    private int carryOutPlan() {
        int moved = 0;
        for (int i = 0; i < plan.size; i++) {
            int s = plan.studentOf(i);
            Student one = studentAt(s);
            if (one != null) {
                int before = one.host();
                one.settle(plan.wishOf(i), plan.agreementOf(i));
                if (one.host() != before) {
                    moved++;
                    facts.forget(s);
                }
            }
        }
        return moved;
    }

    private int balanceOf(int x) {
        int sum = 0;
        for (int s = 0; x >= 0 && s < students.size(); s++) {
            Student one = students.get(s);
            if (one.by == x) {
                sum += wayOf(one.home, x);
            }
        }
        return sum;
    }

    private int placedBy(int x) {
        int sum = 0;
        for (int s = 0; s < students.size(); s++) {
            Student one = students.get(s);
            if (one.state == PLACED && one.by == x) {
                sum++;
            }
        }
        return sum;
    }

    private int placedAt(int h) {
        int sum = 0;
        for (int s = 0; s < students.size(); s++) {
            if (students.get(s).host() == h) {
                sum++;
            }
        }
        return sum;
    }

    private int inState(int state) {
        int sum = 0;
        for (int s = 0; s < students.size(); s++) {
            if (students.get(s).state == state) {
                sum++;
            }
        }
        return sum;
    }

    private int shownOfSchool(int h, int what) {
        School school = schoolAt(h);
        if (school == null) {
            return NONE;
        }
        if (what == 1) {
            return school.beds;
        }
        return what == 2 ? placedAt(h) : school.courses.size();
    }

    private int visaInTime(School host, int asked, int had) {
        // Once it is known when the VISA was had, what was FORETOLD no longer matters.
        if (had != NONE) {
            return had <= host.from ? 2 : 0;
        }
        if (asked == NONE || !isIn(host.land, 0, LANDS - 1) || asked + visaLeast[host.land] > host.from) {
            return 0;
        }
        return asked + visaMost[host.land] <= host.from ? 2 : 1;
    }

    private int firstDayThere(int s, School host, int told) {
        int came = facts.dayOf(s, CAME, told);
        return came == NONE ? DAYS : Math.max(came, host.from);
    }

    private int dayBehindLastThere(int s, School host, int told) {
        int went = facts.dayOf(s, WENT, told);
        return went == NONE ? host.to + 1 : Math.min(went, host.to + 1);
    }

    private int daysThere(int s, School host, int told) {
        return Math.max(0, dayBehindLastThere(s, host, told) - firstDayThere(s, host, told));
    }

    private void countGuests(int h, School host, int told) {
        Arrays.fill(guestsOn, 0);
        for (int s = 0; s < students.size(); s++) {
            if (students.get(s).host() == h) {
                int behind = Math.min(DAYS, dayBehindLastThere(s, host, told));
                for (int day = Math.max(0, firstDayThere(s, host, told)); day < behind; day++) {
                    guestsOn[day]++;
                }
            }
        }
    }

    /** SCALES with how many had each of their MARKS. */
    private static final class Scales {
        static final int SCALES = 4;
        private static final int MARKS = 11;
        private static final int MOST_HAD = 999;

        private final int[][] rows = new int[SCALES][MARKS];

        Scales() {
            for (int i = 0; i < SCALES; i++) {
                Arrays.fill(rows[i], 1);
            }
        }

        boolean isMark(int scale, int mark) {
            return isIn(scale, 0, SCALES - 1) && isIn(mark, 0, MARKS - 1);
        }

        boolean setHad(int scale, int mark, int n) {
            if (!isMark(scale, mark) || !isIn(n, 0, MOST_HAD)) {
                return false;
            }
            rows[scale][mark] = n;
            return true;
        }

        boolean canTurn(int from, int to) {
            return below(from, MARKS) > 0 && below(to, MARKS) > 0;
        }

        /** The highest MARK that somebody had whose SPAN begins at THE MIDDLE or below it. */
        int turned(int from, int to, int mark) {
            if (!isMark(from, mark) || !isMark(to, mark)) {
                return NONE;
            }
            int middle = (2 * below(from, mark) + rows[from][mark]) * below(to, MARKS);
            int step = 2 * below(from, MARKS);
            int found = NONE;
            for (int m = 0; m < MARKS; m++) {
                if (rows[to][m] > 0 && below(to, m) * step <= middle) {
                    found = m;
                }
            }
            return found;
        }

        int leastDoubt(int from, int to, int mark) {
            for (int m = 0; m < MARKS; m++) {
                if (isShared(from, mark, to, m)) {
                    return m;
                }
            }
            return turned(from, to, mark);
        }

        int greatestDoubt(int from, int to, int mark) {
            for (int m = MARKS - 1; m >= 0; m--) {
                if (isShared(from, mark, to, m)) {
                    return m;
                }
            }
            return turned(from, to, mark);
        }

        /** Whether two SPANS have more than a point in common. */
        private boolean isShared(int from, int mark, int to, int other) {
            if (!isMark(from, mark) || !isMark(to, other) || rows[from][mark] == 0 || rows[to][other] == 0) {
                return false;
            }
            int all = below(from, MARKS);
            int otherAll = below(to, MARKS);
            return below(from, mark) * otherAll < below(to, other + 1) * all
                    && below(to, other) * all < below(from, mark + 1) * otherAll;
        }

        private int below(int scale, int mark) {
            int sum = 0;
            for (int m = 0; m < mark && m < MARKS; m++) {
                sum += isMark(scale, m) ? rows[scale][m] : 0;
            }
            return sum;
        }
    }

    /** A SCHOOL with its COURSES. */
    private static final class School {
        static final int MOST_COURSES = 6;
        private static final int MOST_STUDY = 12;

        final int land;
        final int tongue;
        final int from;
        final int to;
        final int fee;
        int beds;
        final List<Course> courses = new ArrayList<>();

        School(int land, int tongue, int beds, int from, int to, int fee) {
            this.land = land;
            this.tongue = tongue;
            this.beds = beds;
            this.from = from;
            this.to = to;
            this.fee = fee;
        }

        int termDays() {
            return to - from + 1;
        }

        int partOf(int whole, int days) {
            int all = termDays();
            return all > 0 ? whole * days / all : 0;
        }

        /** Sets are tried from the least one on, so of like ones the least stays. */
        int bestSet(int needs, int level) {
            int best = 0;
            int sets = 1 << Math.min(courses.size(), MOST_COURSES);
            for (int set = 1; set < sets; set++) {
                if (canBeStudied(set, level) && isBetter(set, best, needs)) {
                    best = set;
                }
            }
            return best;
        }

        int creditsOf(int set) {
            int sum = 0;
            for (int c = 0; c < courses.size(); c++) {
                sum += hasCourse(set, c) ? courses.get(c).credits : 0;
            }
            return sum;
        }

        int topicsOf(int set) {
            int topics = 0;
            for (int c = 0; c < courses.size(); c++) {
                topics |= hasCourse(set, c) ? courses.get(c).topics : 0;
            }
            return topics;
        }

        private static boolean hasCourse(int set, int c) {
            return (set >> c & 1) == 1;
        }

        private boolean canBeStudied(int set, int level) {
            int hours = 0;
            for (int c = 0; c < courses.size(); c++) {
                if (hasCourse(set, c)) {
                    Course course = courses.get(c);
                    if (course.isCancelled || course.level > level || (hours & course.hours) != 0) {
                        return false;
                    }
                    hours |= course.hours;
                }
            }
            return creditsOf(set) <= MOST_STUDY;
        }

        private boolean isBetter(int set, int best, int needs) {
            int more = Integer.bitCount(topicsOf(set) & needs) - Integer.bitCount(topicsOf(best) & needs);
            return more > 0 || (more == 0 && creditsOf(set) < creditsOf(best));
        }
    }

    /** A COURSE of a SCHOOL. */
    private static final class Course {
        static final int MOST_CREDITS = 9;

        final int topics;
        final int credits;
        final int level;
        final int hours;
        boolean isCancelled = false;

        Course(int topics, int credits, int level, int hours) {
            this.topics = topics;
            this.credits = credits;
            this.level = level;
            this.hours = hours;
        }
    }

    /** Bytes that wait to become the TEXT of an AGREEMENT. */
    private static final class Tape {
        private static final int MOST_BYTES = 80;
        private static final int BYTES_OF_FEED = 20;

        final int[] bytes = new int[MOST_BYTES];
        int size = 0;

        boolean hasRoom() {
            return size + BYTES_OF_FEED <= MOST_BYTES;
        }

        void append(int word) {
            for (int shift = 24; shift >= 0; shift -= 8) {
                if (size >= 0 && size < MOST_BYTES) {
                    bytes[size] = word >>> shift & 255;
                    size++;
                }
            }
        }
    }

    /**
     * Reads the TEXT of an AGREEMENT. All its EXPRESSIONS become one row of codes in which
     * an operator comes behind what it joins, so that they are asked without reading again.
     */
    private static final class TextReader {
        static final int MOST_BYTES = 60;
        static final int NOT = -1;
        static final int AND = -2;
        static final int OR = -3;
        /** A comparison's code: (3 times its letter's place in LETTERS and its sign's in SIGNS) times this, and its number. */
        static final int NUMBERS = 10000;

        private static final String LETTERS = "gtcs";
        private static final String SIGNS = "<>=";
        private static final int MOST_OPEN = 6;
        private static final int MOST_DIGITS = 4;

        private int[] bytes = new int[0];
        private int end;
        private int place;
        private int fault;
        private final int[] codes = new int[MOST_BYTES];
        private int codeCount;
        int number;
        int balance;
        int pence;
        int firstYear;
        int lastYear;
        int expressions;

        /** 0, or the first FAULT as the call tells it. */
        int readText(int[] text, int size) {
            bytes = text;
            end = Math.min(size, Math.min(text.length, MOST_BYTES));
            place = 0;
            fault = 0;
            codeCount = 0;
            number = 1;
            balance = 1;
            pence = 0;
            firstYear = 0;
            lastYear = LAST_YEAR;
            expressions = 0;
            readClause();
            for (int i = 0; i < MOST_BYTES && fault == 0 && place < end; i++) {
                expect(';');
                readClause();
            }
            return fault;
        }

        int[] codes() {
            return Arrays.copyOf(codes, Math.max(0, codeCount));
        }

        private void readClause() {
            if (fault != 0) {
                return;
            }
            int letter = peek();
            if (letter == '(') {
                readBracket(0);
                if (expressions > 0) {
                    put(AND);
                }
                expressions++;
                return;
            }
            expectOneOf("nbpy");
            if (letter == 'n') {
                number = readNumber(0, 9);
            } else if (letter == 'b') {
                balance = readNumber(0, 99);
            } else if (letter == 'p') {
                pence = readNumber(0, 9999);
            } else {
                firstYear = readNumber(0, LAST_YEAR);
                expect('-');
                lastYear = readNumber(firstYear, LAST_YEAR);
            }
        }

        /** open: how many brackets are open here. */
        private void readBracket(int open) {
            if (open >= MOST_OPEN) {
                fail(3, place);
                return;
            }
            expect('(');
            readExpression(open + 1);
            expect(')');
        }

        private void readExpression(int open) {
            readTerm(open);
            for (int i = 0; i < MOST_BYTES && fault == 0 && peek() == '|'; i++) {
                place++;
                readTerm(open);
                put(OR);
            }
        }

        private void readTerm(int open) {
            readFactor(open);
            for (int i = 0; i < MOST_BYTES && fault == 0 && peek() == '&'; i++) {
                place++;
                readFactor(open);
                put(AND);
            }
        }

        private void readFactor(int open) {
            boolean isNot = false;
            for (int i = 0; i < MOST_BYTES && fault == 0 && peek() == '!'; i++) {
                place++;
                isNot = !isNot;
            }
            if (peek() == '(') {
                readBracket(open);
            } else {
                readComparison();
            }
            if (isNot) {
                put(NOT);
            }
        }

        private void readComparison() {
            int letter = expectOneOf(LETTERS);
            int sign = expectOneOf(SIGNS);
            int value = readNumber(0, NUMBERS - 1);
            put((letter * SIGNS.length() + sign) * NUMBERS + value);
        }

        private int readNumber(int least, int most) {
            if (fault != 0) {
                return 0;
            }
            int start = place;
            int value = 0;
            while (place < end && place - start < MOST_DIGITS && isIn(peek(), '0', '9')) {
                value = 10 * value + peek() - '0';
                place++;
            }
            if (place == start || isIn(peek(), '0', '9')) {
                fail(1, place);
            } else if (!isIn(value, least, most)) {
                fail(2, start);
            }
            return value;
        }

        private int peek() {
            return place >= 0 && place < end && place < bytes.length ? bytes[place] : NONE;
        }

        private void expect(char sign) {
            if (fault == 0 && peek() != sign) {
                fail(1, place);
            }
            place++;
        }

        /** Which of these stands here. */
        private int expectOneOf(String signs) {
            int sign = peek();
            int found = sign == NONE ? NONE : signs.indexOf((char) sign);
            if (fault == 0 && found < 0) {
                fail(1, place);
            }
            place++;
            return found;
        }

        private void fail(int kind, int where) {
            if (fault == 0) {
                fault = -100 * kind - where;
            }
        }

        private void put(int code) {
            if (fault == 0 && codeCount >= 0 && codeCount < MOST_BYTES) {
                codes[codeCount] = code;
                codeCount++;
            }
        }
    }

    /** An AGREEMENT; what it asks is answered for all SUBJECTS at once, as bits. */
    private static final class Agreement {
        private static final int ALL_SUBJECTS = 255;

        final int first;
        final int second;
        final int number;
        final int balance;
        final int pence;
        final int firstYear;
        final int lastYear;
        final int expressions;
        final int[] codes;
        private final int[] stack;

        Agreement(int first, int second, TextReader reader) {
            this.first = first;
            this.second = second;
            number = reader.number;
            balance = reader.balance;
            pence = reader.pence;
            firstYear = reader.firstYear;
            lastYear = reader.lastYear;
            expressions = reader.expressions;
            codes = reader.codes();
            stack = new int[codes.length];
        }

        boolean isInForce(int year) {
            return isIn(year, firstYear, lastYear);
        }

        boolean isBetween(int a, int b) {
            return (first == a && second == b) || (first == b && second == a);
        }

        /** Whether both are between the same SCHOOLS and have a YEAR in common. */
        boolean isBeside(Agreement other) {
            return isBetween(other.first, other.second) && firstYear <= other.lastYear && other.firstYear <= lastYear;
        }

        int subjectsThatMeet(int grade, int level, int credits) {
            int top = 0;
            for (int i = 0; i < codes.length; i++) {
                int code = codes[i];
                if (code >= 0 && top < stack.length) {
                    stack[top] = compared(code, grade, level, credits);
                    top++;
                } else if (code == TextReader.NOT && top > 0) {
                    stack[top - 1] ^= ALL_SUBJECTS;
                } else if (code == TextReader.AND && top > 1) {
                    top--;
                    stack[top - 1] &= stack[top];
                } else if (code == TextReader.OR && top > 1) {
                    top--;
                    stack[top - 1] |= stack[top];
                }
            }
            return top > 0 ? stack[0] : ALL_SUBJECTS;
        }

        int shown(int what) {
            switch (what) {
                case 0:
                    return first;
                case 1:
                    return second;
                case 2:
                    return number;
                case 3:
                    return balance;
                case 4:
                    return pence;
                case 5:
                    return firstYear;
                case 6:
                    return lastYear;
                case 7:
                    return expressions;
                default:
                    return NONE;
            }
        }

        private static int compared(int code, int grade, int level, int credits) {
            int value = code % TextReader.NUMBERS;
            int sign = code / TextReader.NUMBERS % 3;
            switch (code / TextReader.NUMBERS / 3) {
                case 0:
                    return holds(grade, sign, value) ? ALL_SUBJECTS : 0;
                case 1:
                    return holds(level, sign, value) ? ALL_SUBJECTS : 0;
                case 2:
                    return holds(credits, sign, value) ? ALL_SUBJECTS : 0;
                default:
                    return comparedSubjects(sign, value);
            }
        }

        private static int comparedSubjects(int sign, int value) {
            int first = value > MOST_SUBJECT ? MOST_SUBJECT + 1 : value;
            int below = (1 << first) - 1;
            int just = 1 << first & ALL_SUBJECTS;
            if (sign == 0) {
                return below;
            }
            return sign == 1 ? ALL_SUBJECTS & ~(below | just) : just;
        }

        private static boolean holds(int n, int sign, int value) {
            if (sign == 0) {
                return n < value;
            }
            return sign == 1 ? n > value : n == value;
        }
    }

    /**
     * Compares AGREEMENTS. A comparison's answer changes only at its number and behind it, so that
     * only such GRADES, LEVELS and CREDITS are asked, and 0.
     */
    private static final class Grid {
        private static final int KINDS = 3;

        private final int[][] edges = new int[KINDS][MOST_GRADE + 1];

        /** Whether something MEETS both. */
        boolean haveCommon(Agreement one, Agreement other) {
            return finds(one, other, true);
        }

        /** Whether something MEETS the one, but not the other one. */
        boolean isBeyond(Agreement one, Agreement other) {
            return finds(one, other, false);
        }

        private boolean finds(Agreement one, Agreement other, boolean meetsOther) {
            for (int kind = 0; kind < KINDS; kind++) {
                Arrays.fill(edges[kind], 0);
                edges[kind][0] = 1;
            }
            markEdges(one.codes);
            markEdges(other.codes);
            for (int grade = 0; grade <= MOST_GRADE; grade++) {
                if (edges[0][grade] == 1 && findsAtGrade(one, other, meetsOther, grade)) {
                    return true;
                }
            }
            return false;
        }

        private boolean findsAtGrade(Agreement one, Agreement other, boolean meetsOther, int grade) {
            int wrong = meetsOther ? 0 : Agreement.ALL_SUBJECTS;
            for (int level = 0; level <= MOST_LEVEL; level++) {
                if (edges[1][level] == 0) {
                    continue;
                }
                for (int credits = 0; credits <= MOST_CREDITS; credits++) {
                    int met = edges[2][credits] == 0 ? 0 : one.subjectsThatMeet(grade, level, credits);
                    if (met != 0 && (met & (wrong ^ other.subjectsThatMeet(grade, level, credits))) != 0) {
                        return true;
                    }
                }
            }
            return false;
        }

        private void markEdges(int[] codes) {
            for (int i = 0; i < codes.length; i++) {
                int kind = codes[i] / TextReader.NUMBERS / 3;
                int value = codes[i] % TextReader.NUMBERS;
                if (codes[i] >= 0 && kind < KINDS) {
                    markEdge(kind, value);
                    markEdge(kind, value + 1);
                }
            }
        }

        private void markEdge(int kind, int value) {
            if (isIn(kind, 0, KINDS - 1) && isIn(value, 0, MOST_GRADE)) {
                edges[kind][value] = 1;
            }
        }
    }

    /** A STUDENT. */
    private static final class Student {
        static final int MOST_WISHES = 4;

        final int home;
        final int subject;
        final int grade;
        final int credits;
        final int needs;
        final int[] tests = new int[TONGUES];
        private final int[] wished = new int[MOST_WISHES];
        int wishes = 0;
        int state = WAITING;
        /** The WISH that is served; NONE unless PLACED. */
        private int served = NONE;
        /** The AGREEMENT by which they are, or were, PLACED: DONE ones count in its BALANCE. */
        int by = NONE;

        Student(int home, int subject, int grade, int credits, int needs) {
            this.home = home;
            this.subject = subject;
            this.grade = grade;
            this.credits = credits;
            this.needs = needs;
            Arrays.fill(tests, NONE);
            Arrays.fill(wished, NONE);
        }

        int levelOf(int tongue) {
            return isIn(tongue, 0, TONGUES - 1) ? Math.max(0, tests[tongue]) : 0;
        }

        int wishAt(int w) {
            return w >= 0 && w < wishes && w < MOST_WISHES ? wished[w] : NONE;
        }

        boolean addWish(int h) {
            if (state != WAITING || h == home || wishes < 0 || wishes >= MOST_WISHES) {
                return false;
            }
            for (int w = 0; w < wishes; w++) {
                if (wishAt(w) == h) {
                    return false;
                }
            }
            wished[wishes] = h;
            wishes++;
            return true;
        }

        /** The SCHOOL at which they are PLACED. */
        int host() {
            return state == PLACED ? wishAt(served) : NONE;
        }

        /** A WISH is served, or nothing is given. */
        void settle(int wish, int agreement) {
            served = wish;
            by = agreement;
            state = wish == NONE ? WAITING : PLACED;
        }

        void endYear() {
            if (state == PLACED) {
                state = DONE;
                served = NONE;
            } else if (state == OUT) {
                state = WAITING;
            }
        }

        int placeShown(int what) {
            switch (what) {
                case 0:
                    return state;
                case 1:
                    return host();
                case 2:
                    return state == PLACED ? by : NONE;
                case 3:
                    return served;
                default:
                    return NONE;
            }
        }

        int selfShown(int what) {
            switch (what) {
                case 4:
                    return home;
                case 5:
                    return subject;
                case 6:
                    return grade;
                case 7:
                    return credits;
                case 8:
                    return needs;
                case 9:
                    return wishes;
                default:
                    return NONE;
            }
        }
    }

    /** How many go by each AGREEMENT and to each SCHOOL, and how many can. */
    private static final class Bounds {
        /** More than any run can need: an AGREEMENT that is not in force binds nobody. */
        private static final int FREE = 1000;

        private final int[] mostGoing = new int[MOST_AGREEMENTS];
        private final int[] mostBalance = new int[MOST_AGREEMENTS];
        private final int[] mostGuests = new int[MOST_SCHOOLS];
        /** Those of the first SCHOOL, and of the second one, who go this YEAR. */
        private final int[] goOut = new int[MOST_AGREEMENTS];
        private final int[] goBack = new int[MOST_AGREEMENTS];
        private final int[] balances = new int[MOST_AGREEMENTS];
        private final int[] guests = new int[MOST_SCHOOLS];

        void clear() {
            Arrays.fill(mostGoing, FREE);
            Arrays.fill(mostBalance, FREE);
            Arrays.fill(mostGuests, FREE);
            Arrays.fill(goOut, 0);
            Arrays.fill(goBack, 0);
            Arrays.fill(balances, 0);
            Arrays.fill(guests, 0);
        }

        void setBeds(int h, int beds) {
            if (h >= 0 && h < MOST_SCHOOLS) {
                mostGuests[h] = beds;
            }
        }

        void setAgreement(int x, int number, int balance) {
            if (x >= 0 && x < MOST_AGREEMENTS) {
                mostGoing[x] = number;
                mostBalance[x] = balance;
            }
        }

        /** n more (or fewer, below 0) go to SCHOOL h by AGREEMENT x; way: 1 from its first SCHOOL, else -1. */
        void addGuests(int x, int h, int way, int n) {
            if (x < 0 || x >= MOST_AGREEMENTS || h < 0 || h >= MOST_SCHOOLS) {
                return;
            }
            guests[h] += n;
            if (way > 0) {
                goOut[x] += n;
            } else {
                goBack[x] += n;
            }
            balances[x] += way * n;
        }

        void addToBalance(int x, int way, int n) {
            if (x >= 0 && x < MOST_AGREEMENTS) {
                balances[x] += way * n;
            }
        }

        boolean hasRoom(int x, int h, int way) {
            if (x < 0 || x >= MOST_AGREEMENTS || h < 0 || h >= MOST_SCHOOLS) {
                return false;
            }
            int going = way > 0 ? goOut[x] : goBack[x];
            return going < mostGoing[x] && guests[h] < mostGuests[h];
        }

        boolean areNumbersKept() {
            for (int h = 0; h < MOST_SCHOOLS; h++) {
                if (guests[h] > mostGuests[h]) {
                    return false;
                }
            }
            for (int x = 0; x < MOST_AGREEMENTS; x++) {
                if (goOut[x] > mostGoing[x] || goBack[x] > mostGoing[x]) {
                    return false;
                }
            }
            return true;
        }

        /** Whether so many who could still go out and back could bring each BALANCE within its bound. */
        boolean canBalance(int[] outLeft, int[] backLeft) {
            for (int x = 0; x < MOST_AGREEMENTS && x < outLeft.length && x < backLeft.length; x++) {
                if (balances[x] - backLeft[x] > mostBalance[x] || balances[x] + outLeft[x] < -mostBalance[x]) {
                    return false;
                }
            }
            return true;
        }
    }

    /**
     * Looks for the best PLAN. Rows are tried from the least one on, so of like PLANS the least row
     * stays; a part of a row that can't become better, or keep the bounds, is left at once.
     */
    private static final class Plan {
        static final int SEVEN = 7;
        /** More than all WISHES that can be served are worth: fewest moves come first. */
        static final int MOVE = 4096;

        private static final int OPTIONS = Student.MOST_WISHES + 1;
        private static final int UNFOUND = -1000000;
        /** What a WISH is worth, so that one more of a better kind outweighs seven of worse ones. */
        private static final int[] WORTH = {512, 64, 8, 1};

        final Bounds bounds = new Bounds();
        int size = 0;
        private final int[] who = new int[SEVEN];
        private final int[] options = new int[SEVEN];
        private final int[][] wishes = new int[SEVEN][OPTIONS];
        private final int[][] hosts = new int[SEVEN][OPTIONS];
        private final int[][] agreements = new int[SEVEN][OPTIONS];
        private final int[][] ways = new int[SEVEN][OPTIONS];
        private final int[][] worths = new int[SEVEN][OPTIONS];
        /** What those from one on can be worth, and do for each BALANCE, at most. */
        private final int[] worthLeft = new int[SEVEN + 1];
        private final int[][] outLeft = new int[SEVEN + 1][MOST_AGREEMENTS];
        private final int[][] backLeft = new int[SEVEN + 1][MOST_AGREEMENTS];
        private final int[] row = new int[SEVEN];
        private final int[] bestRow = new int[SEVEN];
        private int best = UNFOUND;

        void clear() {
            size = 0;
            bounds.clear();
        }

        void addStudent(int s) {
            if (size >= 0 && size < SEVEN) {
                who[size] = s;
                options[size] = 0;
                size++;
            }
        }

        /** The last student that was added can go to SCHOOL h, WISH w, by AGREEMENT x. */
        void addOption(int w, int h, int x, int way, int penalty) {
            if (w >= 0 && w < WORTH.length) {
                putOption(w, h, x, way, WORTH[w] - penalty);
            }
        }

        void addNothing(int penalty) {
            putOption(NONE, NONE, NONE, 0, -penalty);
        }

        private void putOption(int w, int h, int x, int way, int worth) {
            int i = size - 1;
            if (i < 0 || i >= SEVEN || options[i] < 0 || options[i] >= OPTIONS) {
                return;
            }
            int o = options[i];
            wishes[i][o] = w;
            hosts[i][o] = h;
            agreements[i][o] = x;
            ways[i][o] = way;
            worths[i][o] = worth;
            options[i]++;
        }

        boolean isFound() {
            best = UNFOUND;
            measureLeft();
            if (bounds.areNumbersKept()) {
                search(0, 0);
            }
            return best != UNFOUND;
        }

        int studentOf(int i) {
            return i >= 0 && i < SEVEN ? who[i] : NONE;
        }

        int wishOf(int i) {
            return isChoice(i) ? wishes[i][bestRow[i]] : NONE;
        }

        int agreementOf(int i) {
            return isChoice(i) ? agreements[i][bestRow[i]] : NONE;
        }

        private boolean isChoice(int i) {
            return i >= 0 && i < SEVEN && bestRow[i] >= 0 && bestRow[i] < OPTIONS;
        }

        private void measureLeft() {
            int last = Math.max(0, Math.min(size, SEVEN));
            worthLeft[last] = 0;
            Arrays.fill(outLeft[last], 0);
            Arrays.fill(backLeft[last], 0);
            for (int i = last - 1; i >= 0; i--) {
                System.arraycopy(outLeft[i + 1], 0, outLeft[i], 0, MOST_AGREEMENTS);
                System.arraycopy(backLeft[i + 1], 0, backLeft[i], 0, MOST_AGREEMENTS);
                int most = UNFOUND;
                for (int o = 0; o < options[i] && o < OPTIONS; o++) {
                    most = Math.max(most, worths[i][o]);
                    addLeft(i, agreements[i][o], ways[i][o]);
                }
                worthLeft[i] = worthLeft[i + 1] + most;
            }
        }

        private void addLeft(int i, int x, int way) {
            if (i < 0 || i > SEVEN || x < 0 || x >= MOST_AGREEMENTS) {
                return;
            }
            if (way > 0) {
                outLeft[i][x]++;
            } else {
                backLeft[i][x]++;
            }
        }

        /** i: how many of the row are chosen, with what these are worth together. */
        private void search(int i, int worth) {
            if (i < 0 || i > size || i > SEVEN || worth + worthLeft[i] <= best
                    || !bounds.canBalance(outLeft[i], backLeft[i])) {
                return;
            }
            if (i == size || i == SEVEN) {
                best = worth;
                System.arraycopy(row, 0, bestRow, 0, SEVEN);
                return;
            }
            for (int o = 0; o < options[i] && o < OPTIONS; o++) {
                choose(i, o, worth);
            }
        }

        /** o: which option the next of the row gets. */
        private void choose(int i, int o, int worth) {
            if (i < 0 || i >= SEVEN || o < 0 || o >= OPTIONS) {
                return;
            }
            int x = agreements[i][o];
            int h = hosts[i][o];
            int way = ways[i][o];
            if (x == NONE || bounds.hasRoom(x, h, way)) {
                row[i] = o;
                bounds.addGuests(x, h, way, 1);
                search(i + 1, worth + worths[i][o]);
                bounds.addGuests(x, h, way, -1);
            }
        }
    }

    /** FACTS in the order in which they were told this YEAR. */
    private static final class Facts {
        private static final int MOST_FACTS = 200;

        int size = 0;
        private int latest = 0;
        private final int[] who = new int[MOST_FACTS];
        private final int[] kinds = new int[MOST_FACTS];
        private final int[] days = new int[MOST_FACTS];
        private final int[] tolds = new int[MOST_FACTS];

        boolean tell(int s, int kind, int day, int told) {
            if (told < latest || size < 0 || size >= MOST_FACTS) {
                return false;
            }
            who[size] = s;
            kinds[size] = kind;
            days[size] = day;
            tolds[size] = told;
            size++;
            latest = told;
            return true;
        }

        int dayOf(int s, int kind, int told) {
            for (int i = Math.min(size, MOST_FACTS) - 1; i >= 0; i--) {
                if (who[i] == s && kinds[i] == kind && tolds[i] <= told) {
                    return days[i];
                }
            }
            return NONE;
        }

        /** They stay among those that were told this YEAR, but are nobody's any more. */
        void forget(int s) {
            for (int i = 0; i < size && i < MOST_FACTS; i++) {
                if (who[i] == s) {
                    who[i] = NONE;
                }
            }
        }

        void clear() {
            size = 0;
            latest = 0;
        }
    }
}
