/**
 * Pupils who sit in a ring or a row, learn and teach whoever sits to their left, and have marks by laws.
 * The promises are told in DOC.md; what stands in capitals there is named alike here.
 */
public final class NeighboursMark {
    private static final int NOBODY = -1;
    private static final int OTHER = -2;
    private static final int STATE = -3;
    private static final int BELOW = -4;
    private static final int ROOM = -6;
    private static final int NONE = -9;

    private static final int MOST_PUPILS = 6;
    private static final int MOST_HOURS = 3;
    private static final int MOST_LETTERS = 64;
    private static final int MOST_LETTER = 255;
    private static final int MOST_NUMBER = 99;
    private static final int MOST_WEEK = 999;
    private static final int MOST_AFTER = 40;
    private static final int MOST_AGAIN = 30;
    private static final int MOST_SEEDS = 20;
    /** 6 * 5 * 4 * 3 * 2 orders of PUPILS. */
    private static final int MOST_ORDERS = 720;
    /** 4 numbers of hours for each of 6 PUPILS. */
    private static final int MOST_WAYS = 4096;
    /** All bits of an int but its sign's; the greatest int, too. */
    private static final int WITHOUT_SIGN = 0x7fffffff;

    private static final int LAW_OWN = 0;
    private static final int LAW_LEFT = 1;
    private static final int LAW_RIGHT = 2;
    private static final int LAW_BOTH = 3;
    private static final int LAW_HALVES = 4;
    private static final int LAW_MEAN = 5;
    private static final int LAW_LEAST = 6;

    private static final int KIND_SELF = 0;
    private static final int KIND_LEFT = 1;
    private static final int KIND_HALF = 2;
    private static final int KIND_TRUST = 3;
    private static final int KIND_BEST = 4;
    private static final int KIND_STAYS = 5;
    /** The letters of KINDS, by their numbers. */
    private static final char[] KIND_LETTERS = {'s', 'l', 'h', 't', 'b', 'o'};

    private final School now;
    /** What a call thinks through, so that nothing of it comes to pass. */
    private final School mind;
    private final Numbers letters;
    private final Numbers told;
    private final Reader reader;
    private final Seatings seatings;
    private final Ways ways;
    /** How many REFUSALS of each number there were, the number without its sign. */
    private final int[] refusals;
    private final School keptSchool;
    private final Numbers keptLetters;
    private final Numbers keptTold;
    private boolean hasImage;

    public NeighboursMark() {
        now = new School();
        mind = new School();
        letters = new Numbers(MOST_LETTERS);
        told = new Numbers(MOST_PUPILS);
        reader = new Reader();
        seatings = new Seatings();
        ways = new Ways();
        refusals = new int[-ROOM + 1];
        keptSchool = new School();
        keptLetters = new Numbers(MOST_LETTERS);
        keptTold = new Numbers(MOST_PUPILS);
        hasImage = false;
    }

    public int letter(int c) {
        if (c < 0) {
            return refuse(BELOW);
        }
        if (c > MOST_LETTER || letters.isFull()) {
            return refuse(ROOM);
        }
        letters.add(c);
        return letters.size;
    }

    public int school() {
        mind.copyFrom(now);
        int answer = reader.read(letters, mind);
        if (answer >= 0) {
            now.copyFrom(mind);
        }
        letters.clear();
        return answer;
    }

    public int pupil(int pupil, int what) {
        if (!now.has(pupil)) {
            return refuse(NOBODY);
        }
        switch (what) {
            case 0:
                return now.kind[pupil];
            case 1:
                return now.quick[pupil];
            case 2:
                return now.teaches[pupil];
            case 3:
                return now.sick[pupil];
            case 4:
                return now.learn[pupil];
            case 5:
                return now.teach[pupil];
            case 6:
                return now.seatOf(pupil);
            case 7:
                return now.left[pupil];
            default:
                return refuse(OTHER);
        }
    }

    public int sick(int pupil, int is) {
        if (!now.has(pupil)) {
            return refuse(NOBODY);
        }
        if (is < 0 || is > 1) {
            return refuse(OTHER);
        }
        int was = now.sick[pupil];
        now.sick[pupil] = is;
        return was;
    }

    public int learn(int pupil, int hours) {
        if (!now.has(pupil)) {
            return refuse(NOBODY);
        }
        if (hours < 0) {
            return refuse(BELOW);
        }
        if (hours > now.hours) {
            return refuse(ROOM);
        }
        int was = now.learn[pupil];
        now.setLearn(pupil, hours);
        return was;
    }

    public int swap(int one, int other) {
        if (!now.has(one) || !now.has(other) || one == other) {
            return refuse(NOBODY);
        }
        now.changeSeats(one, other);
        return 1;
    }

    public int law(int v) {
        if (!isLaw(v)) {
            return refuse(OTHER);
        }
        int was = now.law;
        now.law = v;
        return was;
    }

    public int pass(int v) {
        if (v < 0) {
            return refuse(BELOW);
        }
        if (v > MOST_NUMBER) {
            return refuse(ROOM);
        }
        int was = now.pass;
        now.pass = v;
        return was;
    }

    public int week() {
        if (now.week >= MOST_WEEK) {
            return refuse(ROOM);
        }
        Weeks.goBy(now);
        return now.week;
    }

    public int knows(int pupil) {
        if (!now.has(pupil)) {
            return refuse(NOBODY);
        }
        return Marks.knowsOf(now, pupil);
    }

    public int mark(int pupil) {
        if (!now.has(pupil)) {
            return refuse(NOBODY);
        }
        return Marks.markOf(now, pupil);
    }

    public int passed() {
        return Marks.passedBits(now);
    }

    public int all() {
        return Marks.sumOfMarks(now);
    }

    public int after(int pupil, int n) {
        if (pupil != -1 && !now.has(pupil)) {
            return refuse(NOBODY);
        }
        if (n < 0) {
            return refuse(BELOW);
        }
        if (n > MOST_AFTER) {
            return refuse(ROOM);
        }
        mind.copyFrom(now);
        for (int k = 0; k < n; k++) {
            Weeks.goBy(mind);
        }
        return pupil == -1 ? Marks.sumOfMarks(mind) : Marks.markOf(mind, pupil);
    }

    public int again() {
        mind.copyFrom(now);
        for (int n = 1; n <= MOST_AGAIN; n++) {
            Weeks.goBy(mind);
            // What goes by hangs on LEARN alone, so what comes again in n WEEKS does in 2 n, too.
            if (mind.learnsLike(now)) {
                return n;
            }
        }
        return NONE;
    }

    public int best(int what) {
        if (what < 0 || what > 1) {
            return refuse(OTHER);
        }
        if (now.count == 0) {
            return refuse(STATE);
        }
        seatings.findBest(now);
        return what == 0 ? seatings.mostPassing : seatings.greatestSum;
    }

    public int bestSeat(int i) {
        if (i < 0) {
            return refuse(BELOW);
        }
        if (i >= now.count) {
            return NONE;
        }
        seatings.findBest(now);
        return seatings.chosen[i];
    }

    public int sumLeast() {
        if (now.count == 0) {
            return refuse(STATE);
        }
        return seatings.findLeastSum(now);
    }

    public int rests(int what) {
        if (what < 0 || what > 1) {
            return refuse(OTHER);
        }
        ways.findRests(now);
        if (what == 0) {
            return ways.rests;
        }
        return ways.rests == 0 ? NONE : ways.firstSum;
    }

    public int rest(int pupil) {
        if (!now.has(pupil)) {
            return refuse(NOBODY);
        }
        ways.findRests(now);
        return ways.rests == 0 ? NONE : ways.firstLearn[pupil];
    }

    public int good() {
        return ways.greatestSum(now, now.law);
    }

    public int far() {
        ways.findRests(now);
        if (ways.rests == 0) {
            return NONE;
        }
        return ways.greatestSum(now, now.law) - ways.greatestRestingSum;
    }

    public int byLaw(int law) {
        if (!isLaw(law)) {
            return refuse(OTHER);
        }
        return ways.greatestSum(now, law);
    }

    public int hour(int pupil, int what) {
        if (!now.has(pupil)) {
            return refuse(NOBODY);
        }
        if (what < 0 || what > 1) {
            return refuse(OTHER);
        }
        mind.copyFrom(now);
        // The hour comes on top: TEACH stays what it is.
        mind.learn[pupil]++;
        if (what == 0) {
            return Marks.sumOfMarks(mind) - Marks.sumOfMarks(now);
        }
        return Marks.greaterBits(mind, now);
    }

    public int mends(int pupils) {
        if (pupils < 0 || pupils >= 1 << now.count) {
            return refuse(NOBODY);
        }
        mind.copyFrom(now);
        for (int changes = 0; changes <= 2; changes++) {
            if (mendsWith(mind, pupils, changes)) {
                return changes;
            }
        }
        return NONE;
    }

    public int row(int v) {
        if (v < 0) {
            return refuse(BELOW);
        }
        if (v > MOST_NUMBER || told.isFull()) {
            return refuse(ROOM);
        }
        told.add(v);
        return told.size;
    }

    public int fitting(int i) {
        if (i < -1) {
            return refuse(BELOW);
        }
        if (told.size != now.count) {
            return refuse(STATE);
        }
        seatings.findFitting(now, told);
        if (i == -1) {
            return seatings.fits;
        }
        return seatings.fits == 0 || i >= now.count ? NONE : seatings.chosen[i];
    }

    public int forged() {
        if (told.size != now.count) {
            return refuse(STATE);
        }
        return seatings.forgedBits(now, told);
    }

    public int judge() {
        int answer = firstUnlikeTold();
        told.clear();
        return answer;
    }

    public int seeds(int n, int z) {
        if (n < 1) {
            return refuse(BELOW);
        }
        if (n > MOST_SEEDS) {
            return refuse(ROOM);
        }
        if (now.count == 0) {
            return refuse(STATE);
        }
        mind.copyFrom(now);
        int seed = z;
        int passing = 0;
        for (int k = 0; k < n; k++) {
            seed = nextSeed(seed);
            int one = drawn(seed, now.count);
            seed = nextSeed(seed);
            int other = drawn(seed, now.count);
            mind.changeSeats(one, other);
            Weeks.goBy(mind);
            passing += Integer.bitCount(Marks.passedBits(mind));
        }
        return passing;
    }

    public int image() {
        keptSchool.copyFrom(now);
        keptLetters.copyFrom(letters);
        keptTold.copyFrom(told);
        hasImage = true;
        return now.week;
    }

    public int on() {
        if (!hasImage) {
            return refuse(STATE);
        }
        now.copyFrom(keptSchool);
        letters.copyFrom(keptLetters);
        told.copyFrom(keptTold);
        return now.week;
    }

    public int count(int what) {
        switch (what) {
            case 0:
                return now.count;
            case 1:
                return now.hours;
            case 2:
                return now.week;
            case 3:
                return now.law;
            case 4:
                return now.pass;
            case 5:
                return now.ring ? 1 : 0;
            case 6:
                return told.size;
            case 7:
                return letters.size;
            default:
                return what >= 11 && what <= 16 ? refusals[what - 10] : NONE;
        }
    }

    private int refuse(int number) {
        if (-number >= 0 && -number < refusals.length) {
            refusals[-number]++;
        }
        return number;
    }

    private static boolean isLaw(int v) {
        return v >= LAW_OWN && v <= LAW_LEAST;
    }

    /** Whether so many changes of SEATS, made and taken back, let all these PUPILS pass. */
    private static boolean mendsWith(School school, int pupils, int changes) {
        if (changes <= 0) {
            return (Marks.passedBits(school) & pupils) == pupils;
        }
        boolean mended = false;
        for (int one = 0; one < school.count && !mended; one++) {
            for (int other = one + 1; other < school.count && !mended; other++) {
                school.changeSeats(one, other);
                mended = mendsWith(school, pupils, changes - 1);
                school.changeSeats(one, other);
            }
        }
        return mended;
    }

    private int firstUnlikeTold() {
        int both = Math.min(told.size, now.count);
        for (int p = 0; p < both; p++) {
            if (Marks.markOf(now, p) != told.items[p]) {
                return p;
            }
        }
        return told.size == now.count ? NONE : both;
    }

    private static int nextSeed(int seed) {
        return seed * 1664525 + 1013904223;
    }

    private static int drawn(int seed, int below) {
        return below <= 0 ? 0 : (seed & WITHOUT_SIGN) / 256 % below;
    }

    /** Numbers told one behind the other, so many at most. */
    private static final class Numbers {
        final int[] items;
        int size;

        Numbers(int most) {
            items = new int[Math.max(0, most)];
            size = 0;
        }

        boolean isFull() {
            return size >= items.length;
        }

        void add(int item) {
            if (!isFull()) {
                items[size] = item;
                size++;
            }
        }

        /** The number at a place; -1 where there is none. */
        int at(int place) {
            return place >= 0 && place < size ? items[place] : -1;
        }

        void clear() {
            size = 0;
        }

        void copyFrom(Numbers other) {
            size = Math.min(other.size, items.length);
            System.arraycopy(other.items, 0, items, 0, size);
        }
    }

    /** PUPILS, their SEATS and hours, and what holds for all of them. */
    private static final class School {
        int count;
        int hours;
        int law;
        int pass;
        int week;
        boolean ring;
        final int[] kind;
        final int[] quick;
        final int[] teaches;
        final int[] sick;
        final int[] learn;
        final int[] teach;
        /** The PUPIL on each SEAT. */
        final int[] seats;
        /** Who sits to the left of each PUPIL, and who has it to the left: they follow from SEATS. */
        final int[] left;
        final int[] right;
        /** What each will LEARN when the WEEK has gone by, kept apart since all change at once. */
        final int[] nextLearn;

        School() {
            count = 0;
            hours = 2;
            law = LAW_LEFT;
            pass = 10;
            week = 0;
            ring = true;
            kind = new int[MOST_PUPILS];
            quick = new int[MOST_PUPILS];
            teaches = new int[MOST_PUPILS];
            sick = new int[MOST_PUPILS];
            learn = new int[MOST_PUPILS];
            teach = new int[MOST_PUPILS];
            seats = new int[MOST_PUPILS];
            left = new int[MOST_PUPILS];
            right = new int[MOST_PUPILS];
            nextLearn = new int[MOST_PUPILS];
        }

        void copyFrom(School other) {
            count = other.count;
            hours = other.hours;
            law = other.law;
            pass = other.pass;
            week = other.week;
            ring = other.ring;
            System.arraycopy(other.kind, 0, kind, 0, MOST_PUPILS);
            System.arraycopy(other.quick, 0, quick, 0, MOST_PUPILS);
            System.arraycopy(other.teaches, 0, teaches, 0, MOST_PUPILS);
            System.arraycopy(other.sick, 0, sick, 0, MOST_PUPILS);
            System.arraycopy(other.learn, 0, learn, 0, MOST_PUPILS);
            System.arraycopy(other.teach, 0, teach, 0, MOST_PUPILS);
            System.arraycopy(other.seats, 0, seats, 0, MOST_PUPILS);
            System.arraycopy(other.left, 0, left, 0, MOST_PUPILS);
            System.arraycopy(other.right, 0, right, 0, MOST_PUPILS);
        }

        boolean has(int p) {
            return p >= 0 && p < count;
        }

        boolean addPupil(int itsKind, int itsQuick, int itsTeaches) {
            if (count >= MOST_PUPILS) {
                return false;
            }
            int p = count;
            count++;
            kind[p] = itsKind;
            quick[p] = itsQuick;
            teaches[p] = itsTeaches;
            sick[p] = 0;
            setLearn(p, hours);
            seats[p] = p;
            findNeighbours();
            return true;
        }

        boolean setHours(int h) {
            if (h < 1 || h > MOST_HOURS) {
                return false;
            }
            hours = h;
            for (int p = 0; p < count; p++) {
                setLearn(p, h);
            }
            return true;
        }

        void setRing(boolean is) {
            ring = is;
            findNeighbours();
        }

        void setLearn(int p, int h) {
            if (has(p)) {
                learn[p] = h;
                teach[p] = hours - h;
            }
        }

        boolean learnsLike(School other) {
            for (int p = 0; p < count; p++) {
                if (learn[p] != other.learn[p]) {
                    return false;
                }
            }
            return true;
        }

        int seatOf(int p) {
            for (int i = 0; i < count; i++) {
                if (seats[i] == p) {
                    return i;
                }
            }
            return NONE;
        }

        void changeSeats(int one, int other) {
            int seatOfOne = seatOf(one);
            int seatOfOther = seatOf(other);
            if (seatOfOne >= 0 && seatOfOther >= 0) {
                seats[seatOfOne] = other;
                seats[seatOfOther] = one;
                findNeighbours();
            }
        }

        void sitByNumbers() {
            for (int i = 0; i < count; i++) {
                seats[i] = i;
            }
            findNeighbours();
        }

        /** To be called whenever SEATS, PUPILS or RING have changed. */
        void findNeighbours() {
            for (int i = 0; i < count; i++) {
                int p = seats[i];
                int before = i > 0 ? seats[i - 1] : ring ? seats[count - 1] : NONE;
                int next = i < count - 1 ? seats[i + 1] : ring ? seats[0] : NONE;
                if (has(p)) {
                    left[p] = next;
                    right[p] = before;
                }
            }
        }
    }

    /** What PUPILS of a SCHOOL KNOW, and their MARKS. */
    private static final class Marks {
        /** Nobody KNOWS 0. */
        static int knowsOf(School s, int p) {
            if (p < 0 || p >= s.count || s.sick[p] == 1) {
                return 0;
            }
            int teacher = s.right[p];
            boolean none = teacher < 0 || teacher >= s.count || s.sick[teacher] == 1;
            int taught = none ? 0 : s.teaches[teacher] * s.teach[teacher];
            return s.quick[p] * s.learn[p] + taught;
        }

        static int markOf(School s, int p) {
            if (!s.has(p)) {
                return 0;
            }
            switch (s.law) {
                case LAW_OWN:
                    return knowsOf(s, p);
                case LAW_LEFT:
                    return knowsOf(s, s.left[p]);
                case LAW_RIGHT:
                    return knowsOf(s, s.right[p]);
                case LAW_BOTH:
                    return (knowsOf(s, s.left[p]) + knowsOf(s, s.right[p])) / 2;
                case LAW_HALVES:
                    return (knowsOf(s, s.left[p]) + knowsOf(s, p)) / 2;
                case LAW_MEAN:
                    return meanOfKnows(s);
                default:
                    return leastOfKnows(s);
            }
        }

        static int meanOfKnows(School s) {
            int sum = 0;
            for (int p = 0; p < s.count; p++) {
                sum += knowsOf(s, p);
            }
            return s.count <= 0 ? 0 : sum / s.count;
        }

        static int leastOfKnows(School s) {
            int least = knowsOf(s, 0);
            for (int p = 1; p < s.count; p++) {
                least = Math.min(least, knowsOf(s, p));
            }
            return least;
        }

        static int sumOfMarks(School s) {
            // By these LAWS all have one MARK; ways and SEATINGS are many, so it is not worked out for each.
            if (s.law == LAW_MEAN || s.law == LAW_LEAST) {
                return s.count * markOf(s, 0);
            }
            int sum = 0;
            for (int p = 0; p < s.count; p++) {
                sum += markOf(s, p);
            }
            return sum;
        }

        static int passedBits(School s) {
            int bits = 0;
            for (int p = 0; p < s.count; p++) {
                if (markOf(s, p) >= s.pass) {
                    bits |= 1 << p;
                }
            }
            return bits;
        }

        /** PUPILS (bits) whose MARK is greater in the one SCHOOL than in the other. */
        static int greaterBits(School s, School other) {
            int bits = 0;
            for (int p = 0; p < s.count; p++) {
                if (markOf(s, p) > markOf(other, p)) {
                    bits |= 1 << p;
                }
            }
            return bits;
        }
    }

    /** What PUPILS do when a WEEK goes by. */
    private static final class Weeks {
        static void goBy(School s) {
            for (int p = 0; p < s.count; p++) {
                s.nextLearn[p] = s.hours - teachNext(s, p);
            }
            for (int p = 0; p < s.count; p++) {
                s.setLearn(p, s.nextLearn[p]);
            }
            s.week++;
        }

        /** How many hours one of this KIND will TEACH. */
        static int teachNext(School s, int p) {
            switch (s.kind[p]) {
                case KIND_SELF:
                    return 0;
                case KIND_LEFT:
                    return s.hours;
                case KIND_HALF:
                    return s.hours / 2;
                case KIND_TRUST:
                    return wasTaught(s, p) ? s.hours : 0;
                case KIND_BEST:
                    return teachForBestMark(s, p);
                case KIND_STAYS:
                default:
                    return s.teach[p];
            }
        }

        static boolean wasTaught(School s, int p) {
            int teacher = s.right[p];
            return s.has(teacher) && s.teach[teacher] >= 1;
        }

        static int teachForBestMark(School s, int p) {
            int was = s.learn[p];
            int chosen = 0;
            int greatest = -1;
            for (int t = 0; t <= s.hours; t++) {
                s.setLearn(p, s.hours - t);
                int itsMark = Marks.markOf(s, p);
                if (itsMark > greatest) {
                    greatest = itsMark;
                    chosen = t;
                }
            }
            s.setLearn(p, was);
            return chosen;
        }
    }

    /** Reads STATEMENTS from letters. */
    private static final class Reader {
        private Numbers text;
        private int place;

        Reader() {
            text = new Numbers(0);
            place = 0;
        }

        /** How many STATEMENTS came to the SCHOOL; with a FAULT the FAULT, and the SCHOOL is not to be used. */
        int read(Numbers letters, School school) {
            text = letters;
            place = 0;
            int statements = 0;
            boolean shaped = true;
            for (int k = 0; k < MOST_LETTERS && shaped && (k == 0 || place < text.size); k++) {
                shaped = passStatement();
                statements++;
            }
            if (!shaped) {
                return -1000 - place;
            }
            place = 0;
            for (int k = 0; k < statements; k++) {
                int start = place;
                if (!tell(school)) {
                    return -2000 - start;
                }
                passStatement();
            }
            return statements;
        }

        /** Goes behind a STATEMENT; or to the letter with which none can go on: false. */
        private boolean passStatement() {
            int first = text.at(place);
            int behind = lettersBehind(first);
            if (behind < 0) {
                return false;
            }
            place++;
            for (int k = 0; k < behind; k++) {
                int c = text.at(place);
                boolean fits = first == 'p' && k == 0 ? kindOf(c) >= 0 : isDigit(c);
                if (!fits) {
                    return false;
                }
                place++;
            }
            if (first == 'm' && isDigit(text.at(place))) {
                place++;
            }
            if (text.at(place) != ';') {
                return false;
            }
            place++;
            return true;
        }

        /** How many letters must stand between a STATEMENT's first and its end; -1 if none begins so. */
        private static int lettersBehind(int first) {
            switch (first) {
                case 'p':
                    return 3;
                case 'x':
                    return 2;
                case 'h':
                case 'l':
                case 'm':
                    return 1;
                case 'r':
                case 'w':
                    return 0;
                default:
                    return -1;
            }
        }

        private static boolean isDigit(int c) {
            return c >= '0' && c <= '9';
        }

        private int digitAt(int where) {
            return text.at(where) - '0';
        }

        private static int kindOf(int c) {
            for (int k = 0; k < KIND_LETTERS.length; k++) {
                if (KIND_LETTERS[k] == c) {
                    return k;
                }
            }
            return -1;
        }

        /** The STATEMENT at this place, which is well shaped, comes to the SCHOOL; false if it is not as it must be. */
        private boolean tell(School school) {
            int digit = digitAt(place + 1);
            switch (text.at(place)) {
                case 'p':
                    return school.addPupil(kindOf(text.at(place + 1)), digitAt(place + 2), digitAt(place + 3));
                case 'h':
                    return school.setHours(digit);
                case 'l':
                    return tellLaw(school, digit);
                case 'r':
                    school.setRing(true);
                    return true;
                case 'w':
                    school.setRing(false);
                    return true;
                case 'x':
                    return tellChange(school, digit, digitAt(place + 2));
                default:
                    school.pass = isDigit(text.at(place + 2)) ? digit * 10 + digitAt(place + 2) : digit;
                    return true;
            }
        }

        private static boolean tellLaw(School school, int v) {
            if (!isLaw(v)) {
                return false;
            }
            school.law = v;
            return true;
        }

        private static boolean tellChange(School school, int one, int other) {
            if (!school.has(one) || !school.has(other) || one == other) {
                return false;
            }
            school.changeSeats(one, other);
            return true;
        }
    }

    /** Goes through all SEATINGS of a SCHOOL in mind, its hours as they are. */
    private static final class Seatings {
        private final School mind;
        /** The PUPILS on the SEATS of the one that was looked for. */
        final int[] chosen;
        int mostPassing;
        int greatestSum;
        int fits;

        Seatings() {
            mind = new School();
            chosen = new int[MOST_PUPILS];
            mostPassing = 0;
            greatestSum = 0;
            fits = 0;
        }

        void findBest(School school) {
            begin(school);
            mostPassing = -1;
            greatestSum = -1;
            boolean more = true;
            for (int k = 0; k < MOST_ORDERS && more; k++) {
                int passing = Integer.bitCount(Marks.passedBits(mind));
                int sum = Marks.sumOfMarks(mind);
                if (passing > mostPassing || passing == mostPassing && sum > greatestSum) {
                    mostPassing = passing;
                    greatestSum = sum;
                    choose();
                }
                more = goOn();
            }
        }

        int findLeastSum(School school) {
            begin(school);
            int least = WITHOUT_SIGN;
            boolean more = true;
            for (int k = 0; k < MOST_ORDERS && more; k++) {
                least = Math.min(least, Marks.sumOfMarks(mind));
                more = goOn();
            }
            return least;
        }

        void findFitting(School school, Numbers marks) {
            begin(school);
            fits = 0;
            boolean more = true;
            for (int k = 0; k < MOST_ORDERS && more; k++) {
                if (unlikeBits(marks) == 0) {
                    if (fits == 0) {
                        choose();
                    }
                    fits++;
                }
                more = goOn();
            }
        }

        int forgedBits(School school, Numbers marks) {
            begin(school);
            int bits = 0;
            boolean more = true;
            for (int k = 0; k < MOST_ORDERS && more; k++) {
                int unlike = unlikeBits(marks);
                if (unlike == 0) {
                    // All others' MARKS are just so, whoever's is left out.
                    bits = (1 << mind.count) - 1;
                } else if (Integer.bitCount(unlike) == 1) {
                    bits |= unlike;
                }
                more = goOn();
            }
            return bits;
        }

        private void begin(School school) {
            mind.copyFrom(school);
            mind.sitByNumbers();
        }

        private void choose() {
            System.arraycopy(mind.seats, 0, chosen, 0, MOST_PUPILS);
        }

        private int unlikeBits(Numbers marks) {
            int bits = 0;
            for (int p = 0; p < mind.count; p++) {
                if (Marks.markOf(mind, p) != marks.at(p)) {
                    bits |= 1 << p;
                }
            }
            return bits;
        }

        /** Sits them in the order that comes next by numbers; false behind the last. */
        private boolean goOn() {
            int[] seats = mind.seats;
            int first = mind.ring ? 1 : 0;
            int rise = mind.count - 2;
            while (rise >= first && seats[rise] > seats[rise + 1]) {
                rise--;
            }
            if (rise < first) {
                return false;
            }
            int greater = mind.count - 1;
            while (greater > rise && seats[greater] < seats[rise]) {
                greater--;
            }
            exchange(seats, rise, greater);
            for (int i = rise + 1, j = mind.count - 1; i < j; i++, j--) {
                exchange(seats, i, j);
            }
            mind.findNeighbours();
            return true;
        }

        private static void exchange(int[] seats, int i, int j) {
            if (i >= 0 && i < seats.length && j >= 0 && j < seats.length) {
                int was = seats[i];
                seats[i] = seats[j];
                seats[j] = was;
            }
        }
    }

    /** Goes through all ways in which PUPILS of a SCHOOL may LEARN, in mind. */
    private static final class Ways {
        private final School mind;
        /** LEARN of each in the first way that RESTS. */
        final int[] firstLearn;
        int rests;
        int firstSum;
        int greatestRestingSum;

        Ways() {
            mind = new School();
            firstLearn = new int[MOST_PUPILS];
            rests = 0;
            firstSum = 0;
            greatestRestingSum = 0;
        }

        int greatestSum(School school, int byLaw) {
            begin(school);
            mind.law = byLaw;
            int greatest = 0;
            boolean more = true;
            for (int k = 0; k < MOST_WAYS && more; k++) {
                greatest = Math.max(greatest, Marks.sumOfMarks(mind));
                more = goOn();
            }
            return greatest;
        }

        void findRests(School school) {
            begin(school);
            rests = 0;
            firstSum = 0;
            greatestRestingSum = 0;
            boolean more = true;
            for (int k = 0; k < MOST_WAYS && more; k++) {
                if (isAtRest()) {
                    takeRest();
                }
                more = goOn();
            }
        }

        private void takeRest() {
            int sum = Marks.sumOfMarks(mind);
            if (rests == 0) {
                firstSum = sum;
                System.arraycopy(mind.learn, 0, firstLearn, 0, MOST_PUPILS);
            }
            rests++;
            greatestRestingSum = Math.max(greatestRestingSum, sum);
        }

        private void begin(School school) {
            mind.copyFrom(school);
            for (int p = 0; p < mind.count; p++) {
                mind.setLearn(p, 0);
            }
        }

        /** The way that comes next, the last PUPIL's LEARN going first; false behind the last. */
        private boolean goOn() {
            for (int p = mind.count - 1; p >= 0; p--) {
                if (mind.learn[p] < mind.hours) {
                    mind.setLearn(p, mind.learn[p] + 1);
                    return true;
                }
                mind.setLearn(p, 0);
            }
            return false;
        }

        private boolean isAtRest() {
            for (int p = 0; p < mind.count; p++) {
                if (wouldDoOtherwise(p)) {
                    return false;
                }
            }
            return true;
        }

        private boolean wouldDoOtherwise(int p) {
            int was = mind.learn[p];
            int itsMark = Marks.markOf(mind, p);
            boolean greater = false;
            for (int h = 0; h <= mind.hours && !greater; h++) {
                if (h != was) {
                    mind.setLearn(p, h);
                    greater = Marks.markOf(mind, p) > itsMark;
                }
            }
            mind.setLearn(p, was);
            return greater;
        }
    }
}
