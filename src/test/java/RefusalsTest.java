import java.lang.reflect.InvocationTargetException;
import java.lang.reflect.Method;
import java.util.ArrayList;
import java.util.Arrays;
import java.util.List;

/**
 * REFUSALS: every call with every pair of numbers about the edges (both sides of each, ints that would wrap around), in
 * states from nobody to full. The due answer is the first number that fits in the order in which the promise tells
 * them; nothing else changes, and no other refusal is counted.
 */
public final class RefusalsTest {
    private static final Due d = new Due();
    private static final int[] EDGES = {Integer.MIN_VALUE, Integer.MIN_VALUE + 1, -65536, -1000, -256, -9, -6, -3, -2,
        -1, 0, 1, 2, 3, 4, 5, 6, 7, 8, 15, 16, 19, 20, 21, 39, 40, 41, 63, 64, 65, 98, 99, 100, 254, 255, 256, 257, 65536,
        1 << 30, Integer.MAX_VALUE - 1, Integer.MAX_VALUE};
    private static final int NONE = 0;

    /** What of a state decides whether a call is refused. */
    private record State(String name, String school, int letters, int row, boolean image) {
        int pupils() {
            return school.length() - school.replace("p", "").length();
        }

        int hours() {
            int at = school.indexOf('h');
            return at < 0 ? 2 : school.charAt(at + 1) - '0';
        }

        NeighboursMark make() {
            NeighboursMark x = new NeighboursMark();
            if (!school.isEmpty()) {
                Due.tell(x, school);
            }
            for (int i = 0; i < pupils(); i++) {
                x.learn(i, i % (hours() + 1));
            }
            if (image) {
                x.image();
                x.week();
            }
            for (int i = 0; i < letters; i++) {
                x.letter(i % 2 == 0 ? 'r' : ';');
            }
            for (int i = 0; i < row; i++) {
                x.row(i < pupils() ? x.mark(i) : i);
            }
            return x;
        }
    }

    public static void main(String[] args) throws Exception {
        State[] states = {
            new State("nobody", "", 0, 0, false),
            new State("nobody, letters and ROW full", "", 64, 6, false),
            new State("one alone", "w;h1;m5;pt35;", 1, 1, true),
            new State("two, ROW too short", "h3;po52;pt19;x01;", 63, 1, false),
            new State("three, ROW too long", "l3;pb52;pt19;po44;", 3, 4, true),
            new State("six, letters and ROW full", "w;h3;l4;pb52;pt19;po44;ps11;pl20;ph03;", 64, 6, true)};
        for (State state : states) {
            for (Method m : NeighboursMark.class.getMethods()) {
                if (m.getDeclaringClass() == NeighboursMark.class) {
                    everyCall(state, m);
                }
            }
        }
        d.end();
    }

    private static void everyCall(State state, Method m) throws Exception {
        d.part(m.getName() + " of " + state.name());
        List<Integer> untouched = Script.everything(state.make());
        for (int a : m.getParameterCount() >= 1 ? EDGES : new int[] {0}) {
            for (int b : m.getParameterCount() == 2 ? EDGES : new int[] {0}) {
                oneCall(state, m, a, b, untouched);
            }
        }
    }

    private static void oneCall(State state, Method m, int a, int b, List<Integer> untouched) throws Exception {
        NeighboursMark x = state.make();
        List<Object> arguments = new ArrayList<>(List.<Object>of(a, b).subList(0, m.getParameterCount()));
        String call = m.getName() + arguments;
        int answer;
        try {
            answer = (int) m.invoke(x, arguments.toArray());
        } catch (InvocationTargetException thrown) {
            d.holds(call + " threw " + thrown.getCause(), false);
            return;
        }
        int due = refusal(state, m.getName(), a, b);
        int[] counted = new int[6];
        for (int k = 0; k < 6; k++) {
            counted[k] = x.count(11 + k);
        }
        int[] want = new int[6];
        if (due == NONE) {
            d.holds(call + " is not refused: " + answer, answer >= 0 || answer < -6);
        } else {
            d.due(call, answer, due);
            want[-due - 1] = 1;
            d.holds(call + " changed nothing", Script.everything(x).equals(untouched));
        }
        d.holds(call + " counted " + Arrays.toString(counted), Arrays.equals(counted, want));
    }

    private static int first(Object... numbersAndWhether) {
        for (int i = 0; i < numbersAndWhether.length; i += 2) {
            if ((boolean) numbersAndWhether[i + 1]) {
                return (int) numbersAndWhether[i];
            }
        }
        return NONE;
    }

    private static boolean out(int v, int least, int greatest) {
        return v < least || v > greatest;
    }

    /** As the promises tell them, one by one and in their order. */
    private static int refusal(State s, String name, int a, int b) {
        int pupils = s.pupils();
        boolean nobody = pupils == 0;
        boolean noSuch = out(a, 0, pupils - 1);
        return switch (name) {
            case "letter" -> first(-4, a < 0, -6, a > 255 || s.letters() == 64);
            case "pupil" -> first(-1, noSuch, -2, out(b, 0, 7));
            case "sick" -> first(-1, noSuch, -2, out(b, 0, 1));
            case "learn" -> first(-1, noSuch, -4, b < 0, -6, b > s.hours());
            case "swap" -> first(-1, noSuch || out(b, 0, pupils - 1) || a == b);
            case "law", "byLaw" -> first(-2, out(a, 0, 6));
            case "pass" -> first(-4, a < 0, -6, a > 99);
            case "knows", "mark", "rest" -> first(-1, noSuch);
            case "after" -> first(-1, noSuch && a != -1, -4, b < 0, -6, b > 40);
            case "best" -> first(-2, out(a, 0, 1), -3, nobody);
            case "bestSeat" -> first(-4, a < 0);
            case "sumLeast" -> first(-3, nobody);
            case "rests" -> first(-2, out(a, 0, 1));
            case "hour" -> first(-1, noSuch, -2, out(b, 0, 1));
            case "mends" -> first(-1, a >>> pupils != 0);
            case "row" -> first(-4, a < 0, -6, a > 99 || s.row() == 6);
            case "fitting" -> first(-4, a < -1, -3, s.row() != pupils);
            case "forged" -> first(-3, s.row() != pupils);
            case "seeds" -> first(-4, a < 1, -6, a > 20, -3, nobody);
            case "on" -> first(-3, !s.image());
            case "school", "week", "passed", "all", "again", "good", "far", "judge", "image", "count" -> NONE;
            default -> throw new IllegalArgumentException("no promise: " + name);
        };
    }
}
