import java.util.Random;

/** Runs of calls drawn by seeds: the class answers as the model does. */
public final class ModelTest {
    private static final Due d = new Due();
    private static final int RUNS = 220;
    /** A letter that begins each STATEMENT, KINDS, digits in and out of range, what ends one, a strange one. */
    private static final String SIGNS = "psxhlrwm074;q";
    private static final int[] EDGES = {-2, -1, 0, 1, 2, 3, 4, 5, 6, 7, 8, 9, 40, 41, 64, 99, 100, 255, 256,
        Integer.MIN_VALUE, Integer.MAX_VALUE};

    private final Random random;
    private final NeighboursMark x = new NeighboursMark();
    private final Model m = new Model();

    private ModelTest(long seed) {
        random = new Random(seed);
    }

    public static void main(String[] args) {
        for (int run = 1; run <= RUNS; run++) {
            d.part("run " + run);
            new ModelTest(run).go(run % 4 == 0 ? 6 : 1 + run % 4);
        }
        for (String begun : new String[] {"", "p", "ps10;", "w;x0"}) {
            d.part("texts that begin with " + begun);
            everyText(begun, 4);
        }
        everyState("pb37;", 1, 3);
        everyState("pt62;pb29;", 2, 2);
        everyState("pb37;pt62;pb15;", 3, 1);
        d.end();
    }

    /** Each LAW in a RING and in a ROW, with all ways of hours, whoever is SICK. */
    private static void everyState(String pupils, int n, int hours) {
        int ways = (int) Math.pow(hours + 1, n);
        for (int k = 0; k < 7 * 2 * ways << n; k++) {
            String start = "h" + hours + ";l" + k % 7 + ";" + (k / 7 % 2 == 0 ? "r;" : "w;") + "m" + k % 23 + ";";
            d.part(start + pupils + " " + k);
            ModelTest test = new ModelTest(k);
            test.tell(start + pupils);
            test.setHoursAndSick(n, k / 14 % ways, k / 14 / ways);
            test.lookAtAll(n);
            test.tellMarks();
            test.call("week", 8, 0, 0);
            test.call("again", 14, 0, 0);
        }
    }

    private void setHoursAndSick(int n, int way, int sick) {
        int left = way;
        for (int p = 0; p < n; p++) {
            call("learn", 4, p, left % (m.now.hours + 1));
            call("sick", 3, p, sick >> p & 1);
            left /= m.now.hours + 1;
        }
    }

    /** What is asked as things stand and in mind, calls 9 to 25 of answer(). */
    private void lookAtAll(int n) {
        for (int which = 9; which <= 25; which++) {
            for (int a = 0; a <= n; a++) {
                boolean takesTwo = which == 13 || which == 23 || which == 25;
                for (int b = 0; b <= (takesTwo ? 2 : 0); b++) {
                    call("look " + which, which, a, b);
                }
            }
        }
        for (int pupils = 0; pupils <= 1 << n; pupils++) {
            call("mends", 24, pupils, 0);
        }
    }

    /** Every text that goes on with at most so many signs: FAULTS and their places, and what comes of it. */
    private static void everyText(String begun, int more) {
        new ModelTest(0).tellAlone(begun);
        for (int i = 0; i < SIGNS.length() && more > 0; i++) {
            everyText(begun + SIGNS.charAt(i), more - 1);
        }
    }

    private void tellAlone(String text) {
        tell("po11;");
        tell(text);
        for (int what = 0; what <= 7; what++) {
            call("count behind " + text, 33, what, 0);
        }
    }

    private void go(int pupils) {
        if (random.nextInt(8) > 0) {
            tell(school(pupils));
        }
        for (int k = 0; k < 90; k++) {
            step(pupils);
        }
        for (int what = -1; what <= 18; what++) {
            call("count", 33, what, 0);
        }
    }

    private void step(int pupils) {
        int kind = random.nextInt(40);
        if (kind == 0) {
            tell(anyText());
        } else if (kind == 1) {
            tellMarks();
        } else if (kind < 4) {
            tell(statement(pupils) + ";");
        } else {
            // letter, school and row come too seldom by chance to make sense: the branches above tell them.
            int which = random.nextInt(34);
            boolean dear = which >= 15 && which <= 28;
            if (!dear || pupils < 6 || random.nextInt(8) == 0) {
                call("call " + which, which, argument(pupils), argument(pupils));
            }
        }
    }

    private int argument(int pupils) {
        return random.nextInt(5) == 0 ? EDGES[random.nextInt(EDGES.length)] : random.nextInt(pupils + 1);
    }

    private void tell(String text) {
        for (int i = 0; i < text.length(); i++) {
            call("letter", 0, text.charAt(i), 0);
        }
        call("school of " + text, 1, 0, 0);
    }

    /** MARKS as they are by some SEATING, now and then one of them forged. */
    private void tellMarks() {
        call("judge", 29, 0, 0);
        if (m.now.size() > 1) {
            call("swap", 6, 0, 1);
        }
        for (int mark : m.now.marks()) {
            call("row", 26, random.nextInt(6) == 0 ? random.nextInt(30) : mark, 0);
        }
        if (m.now.size() > 1 && random.nextBoolean()) {
            call("swap", 6, random.nextInt(m.now.size()), 0);
        }
        for (int i = -2; i <= m.now.size(); i++) {
            call("fitting", 27, i, 0);
        }
        call("forged", 28, 0, 0);
        if (random.nextBoolean()) {
            call("judge", 29, 0, 0);
        }
    }

    private String school(int pupils) {
        StringBuilder text = new StringBuilder("h" + (1 + random.nextInt(3)) + ";l" + random.nextInt(7) + ";");
        text.append(random.nextBoolean() ? "r;" : "w;");
        for (int p = 0; p < pupils; p++) {
            text.append(pupil()).append(';');
        }
        return text.toString();
    }

    private String pupil() {
        return "p" + "slhtbo".charAt(random.nextInt(6)) + random.nextInt(10) + random.nextInt(10);
    }

    private String statement(int pupils) {
        switch (random.nextInt(7)) {
            case 0:
                return m.now.size() < pupils ? pupil() : "r";
            case 1:
                return "h" + random.nextInt(5);
            case 2:
                return "l" + random.nextInt(8);
            case 3:
                return "m" + random.nextInt(40);
            case 4:
                return "x" + random.nextInt(pupils + 1) + random.nextInt(pupils + 1);
            case 5:
                return "w";
            default:
                return "r";
        }
    }

    private String anyText() {
        StringBuilder text = new StringBuilder();
        int statements = random.nextInt(9);
        for (int k = 0; k < statements; k++) {
            text.append(statement(3)).append(';');
        }
        if (text.length() > 0 && random.nextInt(3) > 0) {
            text.setCharAt(random.nextInt(text.length()), "pslhtborwxm0123456789;:/ q".charAt(random.nextInt(26)));
        }
        return text.toString();
    }

    private void call(String name, int which, int a, int b) {
        d.due(name + " (" + a + ", " + b + ")", answer(which, a, b), due(which, a, b));
    }

    private int answer(int which, int a, int b) {
        switch (which) {
            case 0: return x.letter(a);
            case 1: return x.school();
            case 2: return x.pupil(a, b);
            case 3: return x.sick(a, b);
            case 4: return x.learn(a, b);
            case 5: return x.law(a);
            case 6: return x.swap(a, b);
            case 7: return x.pass(a);
            case 8: return x.week();
            case 9: return x.knows(a);
            case 10: return x.mark(a);
            case 11: return x.passed();
            case 12: return x.all();
            case 13: return x.after(a - 1, b);
            case 14: return x.again();
            case 15: return x.best(a);
            case 16: return x.bestSeat(a);
            case 17: return x.sumLeast();
            case 18: return x.rests(a);
            case 19: return x.rest(a);
            case 20: return x.good();
            case 21: return x.far();
            case 22: return x.byLaw(a);
            case 23: return x.hour(a, b);
            case 24: return x.mends(a);
            case 25: return x.seeds(a, b);
            case 26: return x.row(a);
            case 27: return x.fitting(a);
            case 28: return x.forged();
            case 29: return x.judge();
            case 30: return x.image();
            case 31: return x.on();
            case 32: return x.mends(a * 3 + b);
            default: return x.count(a);
        }
    }

    private int due(int which, int a, int b) {
        switch (which) {
            case 0: return m.letter(a);
            case 1: return m.school();
            case 2: return m.pupil(a, b);
            case 3: return m.sick(a, b);
            case 4: return m.learn(a, b);
            case 5: return m.law(a);
            case 6: return m.swap(a, b);
            case 7: return m.pass(a);
            case 8: return m.week();
            case 9: return m.knows(a);
            case 10: return m.mark(a);
            case 11: return m.passed();
            case 12: return m.all();
            case 13: return m.after(a - 1, b);
            case 14: return m.again();
            case 15: return m.best(a);
            case 16: return m.bestSeat(a);
            case 17: return m.sumLeast();
            case 18: return m.rests(a);
            case 19: return m.rest(a);
            case 20: return m.good();
            case 21: return m.far();
            case 22: return m.byLaw(a);
            case 23: return m.hour(a, b);
            case 24: return m.mends(a);
            case 25: return m.seeds(a, b);
            case 26: return m.row(a);
            case 27: return m.fitting(a);
            case 28: return m.forged();
            case 29: return m.judge();
            case 30: return m.image();
            case 31: return m.on();
            case 32: return m.mends(a * 3 + b);
            default: return m.count(a);
        }
    }
}
