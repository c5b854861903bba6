import java.lang.reflect.InvocationTargetException;
import java.lang.reflect.Method;
import java.util.ArrayList;
import java.util.HashMap;
import java.util.List;
import java.util.Map;
import java.util.Set;
import java.util.regex.Matcher;
import java.util.regex.Pattern;

/**
 * A run of calls on a new object, written as text with the answers that are due:
 *
 * <pre>
 *   "h3;ps11;"=2      letters, then school()
 *   learn(0,1)=3      a call; without "=" its answer is not looked at; min and max stand for the ends of int
 *   marks=6,8,3       mark(0), mark(1), ..; likewise knows, learns (LEARN, TEACH being the rest), seats (the PUPILS
 *                     from the first SEAT on)
 *   tells=5,2,9       a new ROW: judge(), then row(5), row(2), row(9)
 * </pre>
 *
 * Beside the object there is a twin that gets neither refused calls nor calls that only look. When the run ends both
 * must be alike in all that can be seen, but for how many refusals there were: so a refused call has changed nothing,
 * and neither has a look.
 */
final class Script {
    /** The document promises nothing behind these. */
    private static final int MOST_CALLS = 512;
    private static final Set<String> CHANGING = Set.of(
        "letter", "school", "sick", "learn", "swap", "law", "pass", "week", "row", "judge", "image", "on");
    private static final Pattern TELL = Pattern.compile("\"([^\"]*)\"(?:=(-?\\d+))?");
    private static final Pattern CALL = Pattern.compile("(\\w+)\\(([^)]*)\\)(?:=(-?\\d+))?");
    private static final Pattern LIST = Pattern.compile("(\\w+)=([-\\d,]+)");
    private static final Map<String, Method> METHODS = methods();

    private final Due due;
    private final NeighboursMark x = new NeighboursMark();
    private final NeighboursMark twin = new NeighboursMark();
    private final int[] refused = new int[7];
    private int calls = 0;

    private Script(Due due) {
        this.due = due;
    }

    /** The sentence is the document's, with what is looked at behind it. */
    static void run(Due due, String sentence, String text) {
        due.part(sentence);
        Script script = new Script(due);
        for (String token : text.trim().split("\\s+")) {
            script.step(token);
        }
        script.end();
    }

    private static Map<String, Method> methods() {
        Map<String, Method> found = new HashMap<>();
        for (Method m : NeighboursMark.class.getMethods()) {
            if (m.getDeclaringClass() == NeighboursMark.class) {
                found.put(m.getName(), m);
            }
        }
        return found;
    }

    private void step(String token) {
        Matcher tell = TELL.matcher(token);
        Matcher call = CALL.matcher(token);
        Matcher list = LIST.matcher(token);
        if (tell.matches()) {
            for (char c : tell.group(1).toCharArray()) {
                call("letter", c);
            }
            look(token, call("school"), tell.group(2));
        } else if (call.matches()) {
            look(token, call(call.group(1), numbers(call.group(2))), call.group(3));
        } else if (list.matches()) {
            list(list.group(1), numbers(list.group(2)));
        } else {
            throw new IllegalArgumentException("no step: " + token);
        }
    }

    private void look(String token, int got, String want) {
        if (want != null) {
            due.due(token, got, Integer.parseInt(want));
        }
    }

    private static int[] numbers(String text) {
        if (text.isEmpty()) {
            return new int[0];
        }
        String[] parts = text.split(",");
        int[] found = new int[parts.length];
        for (int i = 0; i < parts.length; i++) {
            found[i] = switch (parts[i]) {
                case "min" -> Integer.MIN_VALUE;
                case "max" -> Integer.MAX_VALUE;
                default -> Integer.parseInt(parts[i]);
            };
        }
        return found;
    }

    private void list(String what, int[] want) {
        if (what.equals("tells")) {
            call("judge");
            for (int i = 0; i < want.length; i++) {
                due.due("row(" + want[i] + ")", call("row", want[i]), i + 1);
            }
            return;
        }
        due.due("PUPILS for " + what, call("count", 0), want.length);
        for (int i = 0; i < want.length; i++) {
            switch (what) {
                case "marks" -> due.due("mark(" + i + ")", call("mark", i), want[i]);
                case "knows" -> due.due("knows(" + i + ")", call("knows", i), want[i]);
                case "seats" -> due.due("SEAT of " + want[i], call("pupil", want[i], 6), i);
                case "learns" -> {
                    due.due("LEARN of " + i, call("pupil", i, 4), want[i]);
                    due.due("TEACH of " + i, call("pupil", i, 5), call("count", 1) - want[i]);
                }
                default -> throw new IllegalArgumentException("no list: " + what);
            }
        }
    }

    private int call(String name, int... arguments) {
        calls++;
        int answer = on(x, name, arguments);
        boolean isRefusal = answer <= -1 && answer >= -6;
        if (isRefusal) {
            refused[-answer]++;
            for (int k = 1; k <= 6; k++) {
                due.due("REFUSALS -" + k + " behind " + name, x.count(10 + k), refused[k]);
            }
        } else if (CHANGING.contains(name)) {
            due.due(name + " of the twin", on(twin, name, arguments), answer);
        }
        return answer;
    }

    private int on(NeighboursMark object, String name, int... arguments) {
        Method method = METHODS.get(name);
        if (method == null || method.getParameterCount() != arguments.length) {
            throw new IllegalArgumentException("no call: " + name + " of " + arguments.length);
        }
        Object[] boxed = new Object[arguments.length];
        for (int i = 0; i < boxed.length; i++) {
            boxed[i] = arguments[i];
        }
        try {
            return (int) method.invoke(object, boxed);
        } catch (InvocationTargetException thrown) {
            due.holds(name + " threw " + thrown.getCause(), false);
            return Integer.MIN_VALUE;
        } catch (IllegalAccessException hidden) {
            throw new IllegalStateException(hidden);
        }
    }

    private void end() {
        due.holds("the run is short enough to be promised: " + calls, calls <= MOST_CALLS);
        for (int k = 1; k <= 6; k++) {
            due.due("REFUSALS -" + k + " in all", x.count(10 + k), refused[k]);
            due.due("REFUSALS of the twin", twin.count(10 + k), 0);
        }
        List<Integer> seen = everything(x);
        List<Integer> seenOfTwin = everything(twin);
        due.holds("refused calls and looks changed nothing: " + seen + " " + seenOfTwin, seen.equals(seenOfTwin));
    }

    /** What can be seen of an object; in the end what letters, the ROW and the IMAGE hold, which uses them up. */
    static List<Integer> everything(NeighboursMark x) {
        List<Integer> seen = new ArrayList<>();
        seeState(x, seen);
        seen.add(x.fitting(-1));
        seen.add(x.fitting(0));
        seen.add(x.forged());
        seen.add(x.judge());
        seen.add(x.school());
        seeState(x, seen);
        seen.add(x.on());
        seeState(x, seen);
        seen.add(x.judge());
        seen.add(x.school());
        seeState(x, seen);
        return seen;
    }

    private static void seeState(NeighboursMark x, List<Integer> seen) {
        for (int what = 0; what <= 7; what++) {
            seen.add(x.count(what));
        }
        for (int p = 0; p < x.count(0); p++) {
            for (int what = 0; what <= 7; what++) {
                seen.add(x.pupil(p, what));
            }
            seen.add(x.mark(p));
        }
    }
}
