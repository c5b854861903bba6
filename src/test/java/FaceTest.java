import java.lang.management.ManagementFactory;
import java.lang.reflect.Field;
import java.lang.reflect.Member;
import java.lang.reflect.Method;
import java.lang.reflect.Modifier;
import java.nio.file.Files;
import java.nio.file.Path;
import java.util.ArrayList;
import java.util.HashSet;
import java.util.List;
import java.util.Set;
import java.util.TreeSet;
import java.util.regex.Pattern;

/** The face is the document's; the source keeps to rules of LANGUAGE.md that can be looked up; calls make nothing. */
public final class FaceTest {
    private static final Due d = new Due();
    private static final String[] FACE = {
        "letter 1", "school 0", "pupil 2", "sick 2", "learn 2", "swap 2", "law 1", "pass 1", "week 0", "knows 1",
        "mark 1", "passed 0", "all 0", "after 2", "again 0", "best 1", "bestSeat 1", "sumLeast 0", "rests 1", "rest 1",
        "good 0", "far 0", "byLaw 1", "hour 2", "mends 1", "row 1", "fitting 1", "forged 0", "judge 0", "seeds 2",
        "image 0", "on 0", "count 1"};

    public static void main(String[] args) throws Exception {
        members();
        staticFields();
        source();
        objects();
        d.end();
    }

    private static void members() {
        d.part("rule 1");
        Class<?> c = NeighboursMark.class;
        d.holds("public final", Modifier.isPublic(c.getModifiers()) && Modifier.isFinal(c.getModifiers()));
        d.due("constructors", c.getDeclaredConstructors().length, 1);
        Set<String> face = new TreeSet<>();
        Set<String> names = new HashSet<>();
        for (Method m : c.getDeclaredMethods()) {
            if (isOpen(m)) {
                face.add(m.getName() + " " + m.getParameterCount());
                names.add(m.getName());
                d.holds(m.getName() + " answers an int", m.getReturnType() == int.class);
            }
        }
        d.holds("the face is the document's: " + face, face.equals(new TreeSet<>(List.of(FACE))));
        for (Field f : c.getDeclaredFields()) {
            d.holds("field " + f.getName() + " is private", !isOpen(f));
        }
        for (Class<?> type : all()) {
            for (Method m : type.getDeclaredMethods()) {
                d.holds(m.getName() + " is no second one", type == c && isOpen(m) || !names.contains(m.getName()));
                d.holds(m.getName() + " takes at most seven", m.getParameterCount() <= 7);
            }
            d.holds(type.getName() + " has some twenty fields", instanceFields(type) <= 20);
        }
        d.holds("some twelve classes", all().size() <= 12);
    }

    private static boolean isOpen(Member m) {
        return !m.isSynthetic() && !Modifier.isPrivate(m.getModifiers());
    }

    private static int instanceFields(Class<?> type) {
        int n = 0;
        for (Field f : type.getDeclaredFields()) {
            n += Modifier.isStatic(f.getModifiers()) ? 0 : 1;
        }
        return n;
    }

    private static List<Class<?>> all() {
        List<Class<?>> found = new ArrayList<>(List.of(NeighboursMark.class.getDeclaredClasses()));
        for (Class<?> inner : found) {
            d.holds(inner.getName() + " is static", Modifier.isStatic(inner.getModifiers()));
        }
        found.add(NeighboursMark.class);
        return found;
    }

    private static void staticFields() {
        d.part("rule 5");
        for (Class<?> type : all()) {
            for (Field f : type.getDeclaredFields()) {
                if (Modifier.isStatic(f.getModifiers())) {
                    d.holds(f.getName() + " is final", Modifier.isFinal(f.getModifiers()));
                }
            }
        }
    }

    private static void source() throws Exception {
        d.part("source");
        String text = Files.readString(Path.of("src/main/java/NeighboursMark.java"));
        String code = text.replaceAll("(?s)/\\*.*?\\*/", "").replaceAll("//[^\n]*", "");
        String[] words = {"throw", "throws", "try", "catch", "synchronized", "assert", "import", "package", "protected",
            "float", "double", "Object", "hashCode", "toString", "getClass", "Exception", "Thread", "Random"};
        for (String word : words) {
            d.holds("without " + word, !Pattern.compile("\\b" + word + "\\b").matcher(code).find());
        }
        for (String sign : new String[] {"->", "::", "Exact(", "@", "[][]"}) {
            d.holds("without " + sign, !code.contains(sign));
        }
        Set<String> library = Set.of("Math.max", "Math.min", "Integer.bitCount", "System.arraycopy");
        Pattern used = Pattern.compile("\\b(?:Math|Integer|Long|System|Arrays|String|Character|List)\\s*\\.\\s*\\w+");
        used.matcher(code).results().forEach(u -> d.holds(u.group() + " is listed", library.contains(u.group())));
        d.holds("signs 1 to 127 alone", text.chars().allMatch(c -> c >= 1 && c <= 127));
    }

    /** All calls of one run live in one room, so a call makes nothing: what it needs was made with the object. */
    private static void objects() {
        d.part("objects");
        com.sun.management.ThreadMXBean threads =
            (com.sun.management.ThreadMXBean) ManagementFactory.getThreadMXBean();
        long self = Thread.currentThread().getId();
        NeighboursMark x = Due.of("h3;ps52;pl37;ph44;pt61;pb25;po19;w;");
        everyCall(x);
        threads.getThreadAllocatedBytes(self);
        long before = threads.getThreadAllocatedBytes(self);
        for (int k = 0; k < 10; k++) {
            everyCall(x);
        }
        long made = threads.getThreadAllocatedBytes(self) - before;
        d.holds("340 calls made " + made + " bytes", made < 10000);
    }

    private static void everyCall(NeighboursMark x) {
        x.letter('l');
        x.letter('2');
        x.letter(';');
        x.school();
        x.pupil(0, 6);
        x.sick(0, 1);
        x.sick(0, 0);
        x.learn(1, 1);
        x.swap(0, 1);
        x.law(2);
        x.pass(10);
        x.week();
        x.knows(0);
        x.mark(0);
        x.passed();
        x.all();
        x.after(0, 40);
        x.again();
        x.best(0);
        x.bestSeat(0);
        x.sumLeast();
        x.rests(0);
        x.rest(0);
        x.good();
        x.far();
        x.byLaw(6);
        x.hour(0, 1);
        x.mends(63);
        for (int k = 0; k < 6; k++) {
            x.row(5);
        }
        x.fitting(-1);
        x.forged();
        x.judge();
        x.seeds(20, 9);
        x.image();
        x.on();
        x.count(0);
    }
}
